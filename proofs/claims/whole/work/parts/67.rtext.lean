/-! THE REFERENCE reads texts -/
def RPs (x : XS) (g : Nat → Nat) (len a : Nat) : Prop := x 137 3 = nI len ∧ len ≤ 600 ∧ x 137 4 = nI a ∧ a ≤ len ∧ ∀ j, j < 600 → x 139 j = nI (g j) ∧ g j < 256
abbrev gdX (x : XS) (b : Nat) : XS := xu x 137 4 (nI b)
abbrev wrX (x : XS) (k p : Nat) : XS := xu (xu x 137 5 (nI p)) 137 6 (nI k)
theorem RPs.gd {x : XS} {g : Nat → Nat} {len a b : Nat} (h : RPs x g len a) (hb : b ≤ len) : RPs (gdX x b) g len b := ⟨h.1, h.2.1, xu_s, hb, h.2.2.2.2⟩
def hrN (g : Nat → Nat) (len a : Nat) : Nat := if skip g len a < len then g (skip g len a) else 0
theorem hrN_lt {x : XS} {g : Nat → Nat} {len a b : Nat} (h : RPs x g len b) : hrN g len a < 256 := by
  unfold hrN
  split
  · exact (h.2.2.2.2 _ (by have := h.2.1; omega)).2
  · decide
theorem hrN_nx {g : Nat → Nat} {len a c : Nat} (hg : ∀ j, j < 600 → g j < 256) (hl : len ≤ 600) (hc : 1 ≤ c) (hc2 : c < 256) : (nxV g len a = nI c) ↔ hrN g len a = c := by
  unfold nxV hrN
  split
  · rename_i h
    exact nI_eq (by have := hg _ (show skip g len a < 600 by omega); omega) (by omega)
  · exact ⟨fun e => absurd e.symm (nI_ne1 (by omega)), fun e => by omega⟩
theorem hrN_dig {g : Nat → Nat} {len a : Nat} (hg : ∀ j, j < 600 → g j < 256) (hl : len ≤ 600) : digB (nxV g len a) = isD (hrN g len a) := by
  unfold nxV hrN
  split
  · rename_i h
    exact digN (by have := hg _ (show skip g len a < 600 by omega); omega)
  · decide +kernel
set_option maxHeartbeats 8000000 in
set_option maxRecDepth 20000 in
theorem n_fine {x : XS} : MM mX10_fine 0 0 0 [.ref 137] x (fun v y => v = some (.int (bI (decide (x 137 5 = -1)))) ∧ y = x) NoT := by
  refine MM.of (by decide) (Nat.le_of_ble_eq_true rfl) ?_
  have y137 := lay_137
  refine r_aload_n dX10_fine_0 rfl (by rfl) ?_
  refine gf_X10_101 rfl dX10_fine_1 (by first | assumption | rfl) (by rfl) ?_
  refine r_iconst (v := -1) dX10_fine_4 (by decide) ?_
  refine r_icmp_ne (tgt := 12) dX10_fine_5 (by decide) (fun h5 => ?_) (fun h5 => ?_)
  · refine r_iconst (v := nI 0) dX10_fine_12 (by decide) ?_
    refine r_zret rfl (by first | exact bI_01 _ | exact Or.inl rfl | exact Or.inr rfl) dX10_fine_13 ?_
    first
      | exact ⟨by rw [decide_eq_true h5]; rfl, rfl⟩
      | exact ⟨by rw [decide_eq_false h5]; rfl, rfl⟩
  · refine r_iconst (v := nI 1) dX10_fine_8 (by decide) ?_
    refine r_goto (tgt := 13) dX10_fine_9 (by decide) ?_
    refine r_zret rfl (by first | exact bI_01 _ | exact Or.inl rfl | exact Or.inr rfl) dX10_fine_13 ?_
    first
      | exact ⟨by rw [decide_eq_true h5]; rfl, rfl⟩
      | exact ⟨by rw [decide_eq_false h5]; rfl, rfl⟩
theorem n_fine_t {x : XS} (h : x 137 5 = -1) : MM mX10_fine 0 0 0 [.ref 137] x (fun v y => v = some (.int (bI true)) ∧ y = x) NoT := by
  have w := n_fine (x := x)
  rw [decide_eq_true h] at w
  exact w
theorem n_fine_f {x : XS} (h : ¬ x 137 5 = -1) : MM mX10_fine 0 0 0 [.ref 137] x (fun v y => v = some (.int (bI false)) ∧ y = x) NoT := by
  have w := n_fine (x := x)
  rw [decide_eq_false h] at w
  exact w
set_option maxHeartbeats 8000000 in
set_option maxRecDepth 20000 in
theorem n_wrong {k p : Nat} {x : XS} (h : x 137 5 = -1) : MM mX10_wrong 0 0 0 [.ref 137, .int (nI k), .int (nI p)] x (fun v y => v = none ∧ y = wrX x k p) NoT := by
  refine MM.of (by decide) (Nat.le_of_ble_eq_true rfl) ?_
  have y137 := lay_137
  refine r_aload_n dX10_wrong_0 rfl (by rfl) ?_
  refine gf_X10_101 rfl dX10_wrong_1 (by first | assumption | rfl) (by rfl) ?_
  refine r_iconst (v := -1) dX10_wrong_4 (by decide) ?_
  refine r_icmp_eq (tgt := 9) dX10_wrong_5 (by decide) (fun h5 => ?_) (fun h5 => ?_)
  · refine r_aload_n dX10_wrong_9 rfl (by rfl) ?_
    refine r_iload_n dX10_wrong_10 rfl (by rfl) ?_
    refine pf_X10_101 rfl dX10_wrong_11 (by first | assumption | rfl) (by rfl) ?_
    refine r_aload_n dX10_wrong_14 rfl (by rfl) ?_
    refine r_iload_n dX10_wrong_15 rfl (by rfl) ?_
    refine pf_X10_104 rfl dX10_wrong_16 (by first | assumption | rfl) (by rfl) ?_
    refine r_ret rfl dX10_wrong_19 ?_
    exact ⟨rfl, rfl⟩
  · refine r_ret rfl dX10_wrong_8 ?_
    exact absurd h h5
set_option maxHeartbeats 8000000 in
set_option maxRecDepth 20000 in
theorem n_isSmall {c : Nat} {x : XS} (hc : c < 256) : MM mX10_isSmall 0 0 0 [.int (nI c)] x (fun v y => v = some (.int (bI (small c))) ∧ y = x) NoT := by
  refine MM.of (by decide) (Nat.le_of_ble_eq_true rfl) ?_
  refine r_iload_n dX10_isSmall_0 rfl (by rfl) ?_
  refine r_bipush (v := nI 97) dX10_isSmall_1 (by decide) ?_
  refine r_icmp_ltN (tgt := 16) dX10_isSmall_3 (by decide) (by omega) (by omega) (fun h3 => ?_) (fun h3 => ?_)
  · refine r_iconst (v := nI 0) dX10_isSmall_16 (by decide) ?_
    refine r_zret rfl (by first | exact bI_01 _ | exact Or.inl rfl | exact Or.inr rfl) dX10_isSmall_17 ?_
    refine ⟨?_, rfl⟩
    first
      | (rw [show small c = true from small_iff.mpr (by omega)]; rfl)
      | (rw [show small c = false from Bool.eq_false_iff.mpr (fun q => by have := small_iff.mp q; omega)]; rfl)
  · refine r_iload_n dX10_isSmall_6 rfl (by rfl) ?_
    refine r_bipush (v := nI 122) dX10_isSmall_7 (by decide) ?_
    refine r_icmp_gtN (tgt := 16) dX10_isSmall_9 (by decide) (by omega) (by omega) (fun h9 => ?_) (fun h9 => ?_)
    · refine r_iconst (v := nI 0) dX10_isSmall_16 (by decide) ?_
      refine r_zret rfl (by first | exact bI_01 _ | exact Or.inl rfl | exact Or.inr rfl) dX10_isSmall_17 ?_
      refine ⟨?_, rfl⟩
      first
        | (rw [show small c = true from small_iff.mpr (by omega)]; rfl)
        | (rw [show small c = false from Bool.eq_false_iff.mpr (fun q => by have := small_iff.mp q; omega)]; rfl)
    · refine r_iconst (v := nI 1) dX10_isSmall_12 (by decide) ?_
      refine r_goto (tgt := 17) dX10_isSmall_13 (by decide) ?_
      refine r_zret rfl (by first | exact bI_01 _ | exact Or.inl rfl | exact Or.inr rfl) dX10_isSmall_17 ?_
      refine ⟨?_, rfl⟩
      first
        | (rw [show small c = true from small_iff.mpr (by omega)]; rfl)
        | (rw [show small c = false from Bool.eq_false_iff.mpr (fun q => by have := small_iff.mp q; omega)]; rfl)
set_option maxHeartbeats 8000000 in
set_option maxRecDepth 20000 in
theorem n_isDigit {c : Nat} {x : XS} (hc : c < 256) : MM mX10_isDigit 0 0 0 [.int (nI c)] x (fun v y => v = some (.int (bI (isD c))) ∧ y = x) NoT := by
  refine MM.of (by decide) (Nat.le_of_ble_eq_true rfl) ?_
  refine r_iload_n dX10_isDigit_0 rfl (by rfl) ?_
  refine r_bipush (v := nI 48) dX10_isDigit_1 (by decide) ?_
  refine r_icmp_ltN (tgt := 16) dX10_isDigit_3 (by decide) (by omega) (by omega) (fun h3 => ?_) (fun h3 => ?_)
  · refine r_iconst (v := nI 0) dX10_isDigit_16 (by decide) ?_
    refine r_zret rfl (by first | exact bI_01 _ | exact Or.inl rfl | exact Or.inr rfl) dX10_isDigit_17 ?_
    refine ⟨?_, rfl⟩
    first
      | (rw [show isD c = true from isD_iff.mpr (by omega)]; rfl)
      | (rw [show isD c = false from Bool.eq_false_iff.mpr (fun q => by have := isD_iff.mp q; omega)]; rfl)
  · refine r_iload_n dX10_isDigit_6 rfl (by rfl) ?_
    refine r_bipush (v := nI 57) dX10_isDigit_7 (by decide) ?_
    refine r_icmp_gtN (tgt := 16) dX10_isDigit_9 (by decide) (by omega) (by omega) (fun h9 => ?_) (fun h9 => ?_)
    · refine r_iconst (v := nI 0) dX10_isDigit_16 (by decide) ?_
      refine r_zret rfl (by first | exact bI_01 _ | exact Or.inl rfl | exact Or.inr rfl) dX10_isDigit_17 ?_
      refine ⟨?_, rfl⟩
      first
        | (rw [show isD c = true from isD_iff.mpr (by omega)]; rfl)
        | (rw [show isD c = false from Bool.eq_false_iff.mpr (fun q => by have := isD_iff.mp q; omega)]; rfl)
    · refine r_iconst (v := nI 1) dX10_isDigit_12 (by decide) ?_
      refine r_goto (tgt := 17) dX10_isDigit_13 (by decide) ?_
      refine r_zret rfl (by first | exact bI_01 _ | exact Or.inl rfl | exact Or.inr rfl) dX10_isDigit_17 ?_
      refine ⟨?_, rfl⟩
      first
        | (rw [show isD c = true from isD_iff.mpr (by omega)]; rfl)
        | (rw [show isD c = false from Bool.eq_false_iff.mpr (fun q => by have := isD_iff.mp q; omega)]; rfl)
set_option maxHeartbeats 8000000 in
set_option maxRecDepth 20000 in
theorem n_here {g : Nat → Nat} {len a : Nat} {x : XS} (hS : RPs x g len a) : MM mX10_here 0 0 0 [.ref 137] x (fun v y => v = some (.int (nI (hrN g len a))) ∧ y = gdX x (skip g len a)) NoT := by
  refine MM.of (by decide) (Nat.le_of_ble_eq_true rfl) ?_
  have y137 := lay_137
  have y139 := lay_139
  obtain ⟨_, hl, ha, hal, hg⟩ := id hS
  refine PW.loop (σ := Nat) (fun b => len - b) (fun b => b ≤ len ∧ skip g len a = skip g len b) (fun _ => [(0, .ref 137)]) (fun b => gdX x b) (a) (⟨hal, rfl⟩) rfl (xu_self ha).symm (fun b hb ih => ?_)
  have hb1 := hb.1
  refine r_aload_n dX10_here_0 rfl (by rfl) ?_
  refine gf_X10_107 rfl dX10_here_1 (by first | assumption | rfl) (by rfl) ?_
  refine PW.topi (show _ = nI b from xu_s) ?_
  refine r_aload_n dX10_here_4 rfl (by rfl) ?_
  refine gf_X10_110 rfl dX10_here_5 (by first | assumption | rfl) (by rfl) ?_
  refine PW.topi (show _ = nI len from hS.1) ?_
  refine r_icmp_geN (tgt := 38) dX10_here_8 (by decide) (by omega) (by omega) (fun h8 => ?_) (fun h8 => ?_)
  · refine r_aload_n dX10_here_38 rfl (by rfl) ?_
    refine gf_X10_107 rfl dX10_here_39 (by first | assumption | rfl) (by rfl) ?_
    refine PW.topi (show _ = nI b from xu_s) ?_
    refine r_aload_n dX10_here_42 rfl (by rfl) ?_
    refine gf_X10_110 rfl dX10_here_43 (by first | assumption | rfl) (by rfl) ?_
    refine PW.topi (show _ = nI len from hS.1) ?_
    refine r_icmp_geN (tgt := 61) dX10_here_46 (by decide) (by omega) (by omega) (fun h46 => ?_) (fun h46 => ?_)
    · refine r_iconst (v := nI 0) dX10_here_61 (by decide) ?_
      refine r_iret rfl dX10_here_62 ?_
      have e : skip g len a = b := hb.2.trans (skip_e (by omega))
      refine ⟨?_, by rw [e]⟩
      unfold hrN
      rw [e]
      first
        | (rw [if_pos (by omega)]; done)
        | (rw [if_neg (by omega)]; done)
    · refine r_aload_n dX10_here_49 rfl (by rfl) ?_
      refine gf_X10_20 rfl dX10_here_50 (by first | assumption | rfl) (by rfl) ?_
      refine r_aload_n dX10_here_53 rfl (by rfl) ?_
      refine gf_X10_107 rfl dX10_here_54 (by first | assumption | rfl) (by rfl) ?_
      refine PW.topi (show _ = nI b from xu_s) ?_
      refine r_ialdN dX10_here_57 (by first | assumption | rfl) (by omega) (by decide) ?_
      refine PW.topi (show _ = nI (g b) from (hg b (by omega)).1) ?_
      have hg9 := (hg b (by omega)).2
      refine r_goto (tgt := 62) dX10_here_58 (by decide) ?_
      refine r_iret rfl dX10_here_62 ?_
      have e : skip g len a = b := hb.2.trans (skip_e (by omega))
      refine ⟨?_, by rw [e]⟩
      unfold hrN
      rw [e]
      first
        | (rw [if_pos (by omega)]; done)
        | (rw [if_neg (by omega)]; done)
  · refine r_aload_n dX10_here_11 rfl (by rfl) ?_
    refine gf_X10_20 rfl dX10_here_12 (by first | assumption | rfl) (by rfl) ?_
    refine r_aload_n dX10_here_15 rfl (by rfl) ?_
    refine gf_X10_107 rfl dX10_here_16 (by first | assumption | rfl) (by rfl) ?_
    refine PW.topi (show _ = nI b from xu_s) ?_
    refine r_ialdN dX10_here_19 (by first | assumption | rfl) (by omega) (by decide) ?_
    refine PW.topi (show _ = nI (g b) from (hg b (by omega)).1) ?_
    have hg9 := (hg b (by omega)).2
    refine r_bipush (v := nI 32) dX10_here_20 (by decide) ?_
    refine r_icmp_neN (tgt := 38) dX10_here_22 (by decide) (by omega) (by omega) (fun h22 => ?_) (fun h22 => ?_)
    · refine r_aload_n dX10_here_38 rfl (by rfl) ?_
      refine gf_X10_107 rfl dX10_here_39 (by first | assumption | rfl) (by rfl) ?_
      refine PW.topi (show _ = nI b from xu_s) ?_
      refine r_aload_n dX10_here_42 rfl (by rfl) ?_
      refine gf_X10_110 rfl dX10_here_43 (by first | assumption | rfl) (by rfl) ?_
      refine PW.topi (show _ = nI len from hS.1) ?_
      refine r_icmp_geN (tgt := 61) dX10_here_46 (by decide) (by omega) (by omega) (fun h46 => ?_) (fun h46 => ?_)
      · refine r_iconst (v := nI 0) dX10_here_61 (by decide) ?_
        refine r_iret rfl dX10_here_62 ?_
        have e : skip g len a = b := hb.2.trans (skip_e (by omega))
        refine ⟨?_, by rw [e]⟩
        unfold hrN
        rw [e]
        first
          | (rw [if_pos (by omega)]; done)
          | (rw [if_neg (by omega)]; done)
      · refine r_aload_n dX10_here_49 rfl (by rfl) ?_
        refine gf_X10_20 rfl dX10_here_50 (by first | assumption | rfl) (by rfl) ?_
        refine r_aload_n dX10_here_53 rfl (by rfl) ?_
        refine gf_X10_107 rfl dX10_here_54 (by first | assumption | rfl) (by rfl) ?_
        refine PW.topi (show _ = nI b from xu_s) ?_
        refine r_ialdN dX10_here_57 (by first | assumption | rfl) (by omega) (by decide) ?_
        refine PW.topi (show _ = nI (g b) from (hg b (by omega)).1) ?_
        have hg9 := (hg b (by omega)).2
        refine r_goto (tgt := 62) dX10_here_58 (by decide) ?_
        refine r_iret rfl dX10_here_62 ?_
        have e : skip g len a = b := hb.2.trans (skip_e (by omega))
        refine ⟨?_, by rw [e]⟩
        unfold hrN
        rw [e]
        first
          | (rw [if_pos (by omega)]; done)
          | (rw [if_neg (by omega)]; done)
    · refine r_aload_n dX10_here_25 rfl (by rfl) ?_
      refine r_dup dX10_here_26 rfl ?_
      refine gf_X10_107 rfl dX10_here_27 (by first | assumption | rfl) (by rfl) ?_
      refine PW.topi (show _ = nI b from xu_s) ?_
      refine r_iconst (v := nI 1) dX10_here_30 (by decide) ?_
      refine r_iaddN dX10_here_31 ?_
      refine pf_X10_107 rfl dX10_here_32 (by first | assumption | rfl) (by rfl) ?_
      refine r_goto (tgt := 0) dX10_here_35 (by decide) ?_
      exact PW.lc (by rfl) (xu_xu _ _ _ _ _) (ih (b + 1) ⟨by omega, hb.2.trans (skip_s (by omega) (by omega))⟩ (by omega))
set_option maxHeartbeats 8000000 in
set_option maxRecDepth 20000 in
theorem n_pass {g : Nat → Nat} {len a : Nat} {x : XS} (hS : RPs x g len a) : MM mX10_pass 1 0 0 [.ref 137] x (fun v y => v = none ∧ y = gdX x (smE g len a)) NoT := by
  refine MM.of (by decide) (Nat.le_of_ble_eq_true rfl) ?_
  have y137 := lay_137
  have y139 := lay_139
  obtain ⟨_, hl, ha, hal, hg⟩ := id hS
  refine PW.loop (σ := Nat) (fun b => len - b) (fun b => b ≤ len ∧ smE g len a = smE g len b) (fun _ => [(0, .ref 137)]) (fun b => gdX x b) (a) (⟨hal, rfl⟩) rfl (xu_self ha).symm (fun b hb ih => ?_)
  have hb1 := hb.1
  refine r_aload_n dX10_pass_0 rfl (by rfl) ?_
  refine gf_X10_107 rfl dX10_pass_1 (by first | assumption | rfl) (by rfl) ?_
  refine PW.topi (show _ = nI b from xu_s) ?_
  refine r_aload_n dX10_pass_4 rfl (by rfl) ?_
  refine gf_X10_110 rfl dX10_pass_5 (by first | assumption | rfl) (by rfl) ?_
  refine PW.topi (show _ = nI len from hS.1) ?_
  refine r_icmp_geN (tgt := 39) dX10_pass_8 (by decide) (by omega) (by omega) (fun h8 => ?_) (fun h8 => ?_)
  · refine r_ret rfl dX10_pass_39 ?_
    refine ⟨rfl, ?_⟩
    rw [hb.2, smE_e (fun q => by first | (exact absurd q.2 (by rw [h23]; decide)) | omega)]
  · refine r_aload_n dX10_pass_11 rfl (by rfl) ?_
    refine gf_X10_20 rfl dX10_pass_12 (by first | assumption | rfl) (by rfl) ?_
    refine r_aload_n dX10_pass_15 rfl (by rfl) ?_
    refine gf_X10_107 rfl dX10_pass_16 (by first | assumption | rfl) (by rfl) ?_
    refine PW.topi (show _ = nI b from xu_s) ?_
    refine r_ialdN dX10_pass_19 (by first | assumption | rfl) (by omega) (by decide) ?_
    refine PW.topi (show _ = nI (g b) from (hg b (by omega)).1) ?_
    have hg9 := (hg b (by omega)).2
    refine r_callS (n_isSmall hg9) ms_X10_isSmall ml_X10_117 ⟨by decide, by decide⟩ dX10_pass_20 rfl (Nat.le_of_ble_eq_true rfl) (fun v9 x9 h9 => ?_)
    obtain ⟨rfl, h9⟩ := h9
    refine PW.xeq h9 ?_
    clear h9 x9
    refine r_if_eqB (tgt := 39) dX10_pass_23 (by decide) (fun h23 => ?_) (fun h23 => ?_)
    · refine r_ret rfl dX10_pass_39 ?_
      refine ⟨rfl, ?_⟩
      rw [hb.2, smE_e (fun q => by first | (exact absurd q.2 (by rw [h23]; decide)) | omega)]
    · refine r_aload_n dX10_pass_26 rfl (by rfl) ?_
      refine r_dup dX10_pass_27 rfl ?_
      refine gf_X10_107 rfl dX10_pass_28 (by first | assumption | rfl) (by rfl) ?_
      refine PW.topi (show _ = nI b from xu_s) ?_
      refine r_iconst (v := nI 1) dX10_pass_31 (by decide) ?_
      refine r_iaddN dX10_pass_32 ?_
      refine pf_X10_107 rfl dX10_pass_33 (by first | assumption | rfl) (by rfl) ?_
      refine r_goto (tgt := 0) dX10_pass_36 (by decide) ?_
      exact PW.lc (by rfl) (xu_xu _ _ _ _ _) (ih (b + 1) ⟨by omega, hb.2.trans (smE_s (by omega) h23)⟩ (by omega))
set_option maxHeartbeats 8000000 in
set_option maxRecDepth 20000 in
theorem n_isMore {g : Nat → Nat} {len a : Nat} {x : XS} (hS : RPs x g len a) : MM mX10_isMore 1 0 0 [.ref 137] x (fun v y => v = some (.int (bI (decide (skip g len a < len)))) ∧ y = gdX x (skip g len a)) NoT := by
  refine MM.of (by decide) (Nat.le_of_ble_eq_true rfl) ?_
  have y137 := lay_137
  have hk := skip_le (g := g) hS.2.2.2.1
  have hl := hS.2.1
  refine r_aload_n dX10_isMore_0 rfl (by rfl) ?_
  refine r_callV (n_here hS) mv_X10_here ml_X10_113 ⟨by decide, by decide⟩ dX10_isMore_1 (by first | assumption | rfl) rfl rfl rfl (Nat.le_of_ble_eq_true rfl) (fun v9 x9 h9 => ?_)
  obtain ⟨rfl, h9⟩ := h9
  refine PW.xeq h9 ?_
  clear h9 x9
  refine r_pop dX10_isMore_4 rfl ?_
  refine r_aload_n dX10_isMore_5 rfl (by rfl) ?_
  refine gf_X10_107 rfl dX10_isMore_6 (by first | assumption | rfl) (by rfl) ?_
  refine PW.topi (show _ = nI (skip g len a) from xu_s) ?_
  refine r_aload_n dX10_isMore_9 rfl (by rfl) ?_
  refine gf_X10_110 rfl dX10_isMore_10 (by first | assumption | rfl) (by rfl) ?_
  refine PW.topi (show _ = nI len from hS.1) ?_
  refine r_icmp_geN (tgt := 20) dX10_isMore_13 (by decide) (by omega) (by omega) (fun h13 => ?_) (fun h13 => ?_)
  · refine r_iconst (v := nI 0) dX10_isMore_20 (by decide) ?_
    refine r_zret rfl (by first | exact bI_01 _ | exact Or.inl rfl | exact Or.inr rfl) dX10_isMore_21 ?_
    first
      | exact ⟨by rw [decide_eq_true (by omega)]; rfl, rfl⟩
      | exact ⟨by rw [decide_eq_false (by omega)]; rfl, rfl⟩
  · refine r_iconst (v := nI 1) dX10_isMore_16 (by decide) ?_
    refine r_goto (tgt := 21) dX10_isMore_17 (by decide) ?_
    refine r_zret rfl (by first | exact bI_01 _ | exact Or.inl rfl | exact Or.inr rfl) dX10_isMore_21 ?_
    first
      | exact ⟨by rw [decide_eq_true (by omega)]; rfl, rfl⟩
      | exact ⟨by rw [decide_eq_false (by omega)]; rfl, rfl⟩
def NmP (x y : XS) (len : Nat) (r : Except PE (Nat × Nat)) (v : Option Value) : Prop := match r with
  | .ok q => v = some (.int (nI q.1)) ∧ y = gdX x q.2 ∧ q.2 ≤ len
  | .error e => v = some (.int (nI 0)) ∧ e.2 ≤ len ∧ ∃ b, b ≤ len ∧ y = wrX (gdX x b) e.1 e.2
def TkP (x y : XS) (len : Nat) (r : Except PE Nat) : Prop := match r with
  | .ok b => y = gdX x b ∧ b ≤ len
  | .error e => e.2 ≤ len ∧ ∃ b, b ≤ len ∧ y = wrX (gdX x b) e.1 e.2
def SV (vr vc : Nat) : Prop := vr = vc ∨ (10000 ≤ vc ∧ 10000 ≤ vr)
theorem RPs.gg {x : XS} {g : Nat → Nat} {len a : Nat} (h : RPs x g len a) : ∀ j, j < 600 → g j < 256 := fun j hj => (h.2.2.2.2 j hj).2
theorem hv_N {n : Nat} (hn : n ≤ 1000) {v : Nat} (hv : v < 2000000) : nI v ≤ nI n - nI 1 ↔ v < n := by
  cases n with
  | zero => exact ⟨fun h => absurd (Int32.le_trans (nI_pos' (by omega)) h) (by decide +kernel), fun h => absurd h (Nat.not_lt_zero _)⟩
  | succ m =>
    rw [show nI (m + 1) - nI 1 = nI m from nI_pred m]
    exact (nI_leI (by omega) (by omega)).trans (by omega)
theorem hv_C {m : Nat} (hm : m < 1000) {v : Nat} (hv : v < 2000000) : nI v ≤ nI m ↔ v < m + 1 := (nI_leI (by omega) (by omega)).trans (by omega)
set_option maxHeartbeats 8000000 in
set_option maxRecDepth 20000 in
theorem n_num {g : Nat → Nat} {len a : Nat} {x : XS} (hS : RPs x g len a) {lo n : Nat} {hv : Int32} (h5 : x 137 5 = -1) (hlo : lo ≤ 1000) (hn : n ≤ 1000) (hh : ∀ v, v < 2000000 → (nI v ≤ hv ↔ v < n)) : MM mX10_readNumber 1 0 0 [.ref 137, .int (nI lo), .int hv] x (fun v y => NmP x y len (pNum g len lo n a) v) NoT := by
  refine MM.of (by decide) (Nat.le_of_ble_eq_true rfl) ?_
  have y137 := lay_137
  have y139 := lay_139
  obtain ⟨_, hl, ha, hal, hg⟩ := id hS
  have hk := skip_le (g := g) hS.2.2.2.1
  refine r_aload_n dX10_readNumber_0 rfl (by rfl) ?_
  refine r_callV (n_fine_t h5) mv_X10_fine ml_X10_130 ⟨by decide, by decide⟩ dX10_readNumber_1 (by first | assumption | rfl) rfl rfl rfl (Nat.le_of_ble_eq_true rfl) (fun v9 x9 h9 => ?_)
  obtain ⟨rfl, h9⟩ := h9
  refine PW.xeq h9 ?_
  clear h9 x9
  refine r_if_neB (tgt := 9) dX10_readNumber_4 (by decide) (fun h4 => ?_) (fun h4 => ?_)
  · refine r_aload_n dX10_readNumber_9 rfl (by rfl) ?_
    refine r_callV (n_here hS) mv_X10_here ml_X10_113 ⟨by decide, by decide⟩ dX10_readNumber_10 (by first | assumption | rfl) rfl rfl rfl (Nat.le_of_ble_eq_true rfl) (fun v9 x9 h9 => ?_)
    obtain ⟨rfl, h9⟩ := h9
    refine PW.xeq h9 ?_
    clear h9 x9
    refine r_istore_n dX10_readNumber_13 rfl (by decide) ?_
    refine r_aload_n dX10_readNumber_14 rfl (by rfl) ?_
    refine gf_X10_107 rfl dX10_readNumber_15 (by first | assumption | rfl) (by rfl) ?_
    refine PW.topi (show _ = nI (skip g len a) from xu_s) ?_
    refine r_istore dX10_readNumber_18 (by decide) ?_
    refine r_iconst (v := nI 0) dX10_readNumber_20 (by decide) ?_
    refine r_istore dX10_readNumber_21 (by decide) ?_
    refine r_iload_n dX10_readNumber_23 rfl (by rfl) ?_
    refine r_callS (n_isDigit (hrN_lt hS)) ms_X10_isDigit ml_X10_134 ⟨by decide, by decide⟩ dX10_readNumber_24 rfl (Nat.le_of_ble_eq_true rfl) (fun v9 x9 h9 => ?_)
    obtain ⟨rfl, h9⟩ := h9
    refine PW.xeq h9 ?_
    clear h9 x9
    refine r_if_neB (tgt := 41) dX10_readNumber_27 (by decide) (fun h27 => ?_) (fun h27 => ?_)
    · refine PW.loop (σ := Nat × Nat) (fun s => len - s.1) (fun s => s.1 ≤ len ∧ s.2 < 200000 ∧ ∃ vc, dg g len (skip g len a) 0 = dg g len s.1 vc ∧ SV s.2 vc) (fun s => [(0, .ref 137), (1, .int (nI lo)), (2, .int hv), (3, .int (nI (hrN g len a))), (4, .int (nI (skip g len a))), (5, .int (nI s.2))]) (fun s => gdX x s.1) ((skip g len a, 0)) (⟨hk, (show 0 < 200000 by decide), 0, rfl, Or.inl rfl⟩) rfl rfl (fun s hs ih => ?_)
      obtain ⟨hs1, hs2, hs3⟩ := hs
      refine r_aload_n dX10_readNumber_41 rfl (by rfl) ?_
      refine gf_X10_107 rfl dX10_readNumber_42 (by first | assumption | rfl) (by rfl) ?_
      refine PW.topi (show _ = nI s.1 from xu_s) ?_
      refine r_aload_n dX10_readNumber_45 rfl (by rfl) ?_
      refine gf_X10_110 rfl dX10_readNumber_46 (by first | assumption | rfl) (by rfl) ?_
      refine PW.topi (show _ = nI len from hS.1) ?_
      refine r_icmp_geN (tgt := 114) dX10_readNumber_49 (by decide) (by omega) (by omega) (fun h49 => ?_) (fun h49 => ?_)
      · refine r_iload dX10_readNumber_114 (by rfl) ?_
        refine r_iload_n dX10_readNumber_116 rfl (by rfl) ?_
        refine r_icmp_ltN (tgt := 126) dX10_readNumber_117 (by decide) (by omega) (by omega) (fun h117 => ?_) (fun h117 => ?_)
        · refine r_aload_n dX10_readNumber_126 rfl (by rfl) ?_
          refine r_iconst (v := nI 2) dX10_readNumber_127 (by decide) ?_
          refine r_iload dX10_readNumber_128 (by rfl) ?_
          refine r_callV (n_wrong (x := gdX x s.1) h5) mv_X10_wrong ml_X10_137 ⟨by decide, by decide⟩ dX10_readNumber_130 (by first | assumption | rfl) rfl rfl rfl (Nat.le_of_ble_eq_true rfl) (fun v9 x9 h9 => ?_)
          obtain ⟨rfl, h9⟩ := h9
          refine PW.xeq h9 ?_
          clear h9 x9
          refine r_iconst (v := nI 0) dX10_readNumber_133 (by decide) ?_
          refine r_iret rfl dX10_readNumber_134 ?_
          obtain ⟨vc, e, sv⟩ := hs3
          have e2 : dg g len (skip g len a) 0 = (s.1, vc) := e.trans (dg_e (by first | omega | (intro q; rw [h64] at q; exact absurd q.2 (by decide))))
          unfold SV at sv
          have ep : pNum g len lo n a = .error (2, skip g len a) := by
            unfold pNum
            rw [hrN_dig hS.gg hl, h27, if_pos rfl, e2, if_neg (by
              show ¬ (lo ≤ vc ∧ vc < n)
              first
                | omega
                | (have q9 := mt (hh s.2 (by omega)).mpr h123; omega))]
          rw [ep]
          exact ⟨rfl, hk, s.1, hs1, rfl⟩
        · refine r_iload dX10_readNumber_120 (by rfl) ?_
          refine r_iload_n dX10_readNumber_122 rfl (by rfl) ?_
          refine r_icmp_le (tgt := 135) dX10_readNumber_123 (by decide) (fun h123 => ?_) (fun h123 => ?_)
          · refine r_iload dX10_readNumber_135 (by rfl) ?_
            refine r_iret rfl dX10_readNumber_137 ?_
            obtain ⟨vc, e, sv⟩ := hs3
            have e2 : dg g len (skip g len a) 0 = (s.1, vc) := e.trans (dg_e (by first | omega | (intro q; rw [h64] at q; exact absurd q.2 (by decide))))
            unfold SV at sv
            have q9 := (hh s.2 (by omega)).mp h123
            have ev : s.2 = vc := by omega
            have ep : pNum g len lo n a = .ok (vc, s.1) := by
              unfold pNum
              rw [hrN_dig hS.gg hl, h27, if_pos rfl, e2, if_pos (by
                show lo ≤ vc ∧ vc < n
                omega)]
            rw [ep]
            exact ⟨by rw [ev], rfl, hs1⟩
          · refine r_aload_n dX10_readNumber_126 rfl (by rfl) ?_
            refine r_iconst (v := nI 2) dX10_readNumber_127 (by decide) ?_
            refine r_iload dX10_readNumber_128 (by rfl) ?_
            refine r_callV (n_wrong (x := gdX x s.1) h5) mv_X10_wrong ml_X10_137 ⟨by decide, by decide⟩ dX10_readNumber_130 (by first | assumption | rfl) rfl rfl rfl (Nat.le_of_ble_eq_true rfl) (fun v9 x9 h9 => ?_)
            obtain ⟨rfl, h9⟩ := h9
            refine PW.xeq h9 ?_
            clear h9 x9
            refine r_iconst (v := nI 0) dX10_readNumber_133 (by decide) ?_
            refine r_iret rfl dX10_readNumber_134 ?_
            obtain ⟨vc, e, sv⟩ := hs3
            have e2 : dg g len (skip g len a) 0 = (s.1, vc) := e.trans (dg_e (by first | omega | (intro q; rw [h64] at q; exact absurd q.2 (by decide))))
            unfold SV at sv
            have ep : pNum g len lo n a = .error (2, skip g len a) := by
              unfold pNum
              rw [hrN_dig hS.gg hl, h27, if_pos rfl, e2, if_neg (by
                show ¬ (lo ≤ vc ∧ vc < n)
                first
                  | omega
                  | (have q9 := mt (hh s.2 (by omega)).mpr h123; omega))]
            rw [ep]
            exact ⟨rfl, hk, s.1, hs1, rfl⟩
      · refine r_aload_n dX10_readNumber_52 rfl (by rfl) ?_
        refine gf_X10_20 rfl dX10_readNumber_53 (by first | assumption | rfl) (by rfl) ?_
        refine r_aload_n dX10_readNumber_56 rfl (by rfl) ?_
        refine gf_X10_107 rfl dX10_readNumber_57 (by first | assumption | rfl) (by rfl) ?_
        refine PW.topi (show _ = nI s.1 from xu_s) ?_
        refine r_ialdN dX10_readNumber_60 (by first | assumption | rfl) (by omega) (by decide) ?_
        refine PW.topi (show _ = nI (g s.1) from (hg s.1 (by omega)).1) ?_
        have hg9 := (hg s.1 (by omega)).2
        refine r_callS (n_isDigit hg9) ms_X10_isDigit ml_X10_134 ⟨by decide, by decide⟩ dX10_readNumber_61 rfl (Nat.le_of_ble_eq_true rfl) (fun v9 x9 h9 => ?_)
        obtain ⟨rfl, h9⟩ := h9
        refine PW.xeq h9 ?_
        clear h9 x9
        refine r_if_eqB (tgt := 114) dX10_readNumber_64 (by decide) (fun h64 => ?_) (fun h64 => ?_)
        · refine r_iload dX10_readNumber_114 (by rfl) ?_
          refine r_iload_n dX10_readNumber_116 rfl (by rfl) ?_
          refine r_icmp_ltN (tgt := 126) dX10_readNumber_117 (by decide) (by omega) (by omega) (fun h117 => ?_) (fun h117 => ?_)
          · refine r_aload_n dX10_readNumber_126 rfl (by rfl) ?_
            refine r_iconst (v := nI 2) dX10_readNumber_127 (by decide) ?_
            refine r_iload dX10_readNumber_128 (by rfl) ?_
            refine r_callV (n_wrong (x := gdX x s.1) h5) mv_X10_wrong ml_X10_137 ⟨by decide, by decide⟩ dX10_readNumber_130 (by first | assumption | rfl) rfl rfl rfl (Nat.le_of_ble_eq_true rfl) (fun v9 x9 h9 => ?_)
            obtain ⟨rfl, h9⟩ := h9
            refine PW.xeq h9 ?_
            clear h9 x9
            refine r_iconst (v := nI 0) dX10_readNumber_133 (by decide) ?_
            refine r_iret rfl dX10_readNumber_134 ?_
            obtain ⟨vc, e, sv⟩ := hs3
            have e2 : dg g len (skip g len a) 0 = (s.1, vc) := e.trans (dg_e (by first | omega | (intro q; rw [h64] at q; exact absurd q.2 (by decide))))
            unfold SV at sv
            have ep : pNum g len lo n a = .error (2, skip g len a) := by
              unfold pNum
              rw [hrN_dig hS.gg hl, h27, if_pos rfl, e2, if_neg (by
                show ¬ (lo ≤ vc ∧ vc < n)
                first
                  | omega
                  | (have q9 := mt (hh s.2 (by omega)).mpr h123; omega))]
            rw [ep]
            exact ⟨rfl, hk, s.1, hs1, rfl⟩
          · refine r_iload dX10_readNumber_120 (by rfl) ?_
            refine r_iload_n dX10_readNumber_122 rfl (by rfl) ?_
            refine r_icmp_le (tgt := 135) dX10_readNumber_123 (by decide) (fun h123 => ?_) (fun h123 => ?_)
            · refine r_iload dX10_readNumber_135 (by rfl) ?_
              refine r_iret rfl dX10_readNumber_137 ?_
              obtain ⟨vc, e, sv⟩ := hs3
              have e2 : dg g len (skip g len a) 0 = (s.1, vc) := e.trans (dg_e (by first | omega | (intro q; rw [h64] at q; exact absurd q.2 (by decide))))
              unfold SV at sv
              have q9 := (hh s.2 (by omega)).mp h123
              have ev : s.2 = vc := by omega
              have ep : pNum g len lo n a = .ok (vc, s.1) := by
                unfold pNum
                rw [hrN_dig hS.gg hl, h27, if_pos rfl, e2, if_pos (by
                  show lo ≤ vc ∧ vc < n
                  omega)]
              rw [ep]
              exact ⟨by rw [ev], rfl, hs1⟩
            · refine r_aload_n dX10_readNumber_126 rfl (by rfl) ?_
              refine r_iconst (v := nI 2) dX10_readNumber_127 (by decide) ?_
              refine r_iload dX10_readNumber_128 (by rfl) ?_
              refine r_callV (n_wrong (x := gdX x s.1) h5) mv_X10_wrong ml_X10_137 ⟨by decide, by decide⟩ dX10_readNumber_130 (by first | assumption | rfl) rfl rfl rfl (Nat.le_of_ble_eq_true rfl) (fun v9 x9 h9 => ?_)
              obtain ⟨rfl, h9⟩ := h9
              refine PW.xeq h9 ?_
              clear h9 x9
              refine r_iconst (v := nI 0) dX10_readNumber_133 (by decide) ?_
              refine r_iret rfl dX10_readNumber_134 ?_
              obtain ⟨vc, e, sv⟩ := hs3
              have e2 : dg g len (skip g len a) 0 = (s.1, vc) := e.trans (dg_e (by first | omega | (intro q; rw [h64] at q; exact absurd q.2 (by decide))))
              unfold SV at sv
              have ep : pNum g len lo n a = .error (2, skip g len a) := by
                unfold pNum
                rw [hrN_dig hS.gg hl, h27, if_pos rfl, e2, if_neg (by
                  show ¬ (lo ≤ vc ∧ vc < n)
                  first
                    | omega
                    | (have q9 := mt (hh s.2 (by omega)).mpr h123; omega))]
              rw [ep]
              exact ⟨rfl, hk, s.1, hs1, rfl⟩
        · refine r_iload dX10_readNumber_67 (by rfl) ?_
          refine r_sipush (v := nI 9999) dX10_readNumber_69 (by decide) ?_
          refine r_icmp_leN (tgt := 81) dX10_readNumber_72 (by decide) (by omega) (by omega) (fun h72 => ?_) (fun h72 => ?_)
          · refine r_bipush (v := nI 10) dX10_readNumber_81 (by decide) ?_
            refine r_iload dX10_readNumber_83 (by rfl) ?_
            refine r_imulN dX10_readNumber_85 ?_
            refine r_aload_n dX10_readNumber_86 rfl (by rfl) ?_
            refine gf_X10_20 rfl dX10_readNumber_87 (by first | assumption | rfl) (by rfl) ?_
            refine r_aload_n dX10_readNumber_90 rfl (by rfl) ?_
            refine gf_X10_107 rfl dX10_readNumber_91 (by first | assumption | rfl) (by rfl) ?_
            refine PW.topi (show _ = nI s.1 from xu_s) ?_
            refine r_ialdN dX10_readNumber_94 (by first | assumption | rfl) (by omega) (by decide) ?_
            refine PW.topi (show _ = nI (g s.1) from (hg s.1 (by omega)).1) ?_
            have hg9 := (hg s.1 (by omega)).2
            refine r_iaddN dX10_readNumber_95 ?_
            refine r_bipush (v := nI 48) dX10_readNumber_96 (by decide) ?_
            have hd9 := isD_iff.mp h64
            refine r_isubN dX10_readNumber_98 (by omega) ?_
            refine r_istore dX10_readNumber_99 (by decide) ?_
            refine r_aload_n dX10_readNumber_101 rfl (by rfl) ?_
            refine r_dup dX10_readNumber_102 rfl ?_
            refine gf_X10_107 rfl dX10_readNumber_103 (by first | assumption | rfl) (by rfl) ?_
            refine PW.topi (show _ = nI s.1 from xu_s) ?_
            refine r_iconst (v := nI 1) dX10_readNumber_106 (by decide) ?_
            refine r_iaddN dX10_readNumber_107 ?_
            refine pf_X10_107 rfl dX10_readNumber_108 (by first | assumption | rfl) (by rfl) ?_
            refine r_goto (tgt := 41) dX10_readNumber_111 (by decide) ?_
            obtain ⟨vc, e, sv⟩ := hs3
            have hd9 := isD_iff.mp h64
            first
              | (exact PW.lc (by rfl) (xu_xu _ _ _ _ _) (ih (s.1 + 1, 10000) ⟨(show s.1 + 1 ≤ len by omega), (show 10000 < 200000 by omega), _, e.trans (dg_s (by omega) h64), (by unfold SV at *; split <;> omega)⟩ (show len - (s.1 + 1) < len - s.1 by omega)))
              | (exact PW.lc (by rfl) (xu_xu _ _ _ _ _) (ih (s.1 + 1, 10 * s.2 + g s.1 - 48) ⟨(show s.1 + 1 ≤ len by omega), (show 10 * s.2 + g s.1 - 48 < 200000 by omega), _, e.trans (dg_s (by omega) h64), (by unfold SV at *; split <;> omega)⟩ (show len - (s.1 + 1) < len - s.1 by omega)))
          · refine r_sipush (v := nI 10000) dX10_readNumber_75 (by decide) ?_
            refine r_goto (tgt := 99) dX10_readNumber_78 (by decide) ?_
            refine r_istore dX10_readNumber_99 (by decide) ?_
            refine r_aload_n dX10_readNumber_101 rfl (by rfl) ?_
            refine r_dup dX10_readNumber_102 rfl ?_
            refine gf_X10_107 rfl dX10_readNumber_103 (by first | assumption | rfl) (by rfl) ?_
            refine PW.topi (show _ = nI s.1 from xu_s) ?_
            refine r_iconst (v := nI 1) dX10_readNumber_106 (by decide) ?_
            refine r_iaddN dX10_readNumber_107 ?_
            refine pf_X10_107 rfl dX10_readNumber_108 (by first | assumption | rfl) (by rfl) ?_
            refine r_goto (tgt := 41) dX10_readNumber_111 (by decide) ?_
            obtain ⟨vc, e, sv⟩ := hs3
            have hd9 := isD_iff.mp h64
            first
              | (exact PW.lc (by rfl) (xu_xu _ _ _ _ _) (ih (s.1 + 1, 10000) ⟨(show s.1 + 1 ≤ len by omega), (show 10000 < 200000 by omega), _, e.trans (dg_s (by omega) h64), (by unfold SV at *; split <;> omega)⟩ (show len - (s.1 + 1) < len - s.1 by omega)))
              | (exact PW.lc (by rfl) (xu_xu _ _ _ _ _) (ih (s.1 + 1, 10 * s.2 + g s.1 - 48) ⟨(show s.1 + 1 ≤ len by omega), (show 10 * s.2 + g s.1 - 48 < 200000 by omega), _, e.trans (dg_s (by omega) h64), (by unfold SV at *; split <;> omega)⟩ (show len - (s.1 + 1) < len - s.1 by omega)))
    · refine r_aload_n dX10_readNumber_30 rfl (by rfl) ?_
      refine r_iconst (v := nI 1) dX10_readNumber_31 (by decide) ?_
      refine r_aload_n dX10_readNumber_32 rfl (by rfl) ?_
      refine gf_X10_107 rfl dX10_readNumber_33 (by first | assumption | rfl) (by rfl) ?_
      refine PW.topi (show _ = nI (skip g len a) from xu_s) ?_
      refine r_callV (n_wrong (x := gdX x (skip g len a)) h5) mv_X10_wrong ml_X10_137 ⟨by decide, by decide⟩ dX10_readNumber_36 (by first | assumption | rfl) rfl rfl rfl (Nat.le_of_ble_eq_true rfl) (fun v9 x9 h9 => ?_)
      obtain ⟨rfl, h9⟩ := h9
      refine PW.xeq h9 ?_
      clear h9 x9
      refine r_iconst (v := nI 0) dX10_readNumber_39 (by decide) ?_
      refine r_iret rfl dX10_readNumber_40 ?_
      have ep : pNum g len lo n a = .error (1, skip g len a) := by
        unfold pNum
        rw [hrN_dig hS.gg hl, h27]
        rfl
      rw [ep]
      exact ⟨rfl, hk, skip g len a, hk, rfl⟩
  · exact absurd h4 (by decide)
set_option maxHeartbeats 8000000 in
set_option maxRecDepth 20000 in
theorem n_num_b {lo hv : Int32} {x : XS} (h5 : ¬ x 137 5 = -1) : MM mX10_readNumber 1 0 0 [.ref 137, .int lo, .int hv] x (fun v y => v = some (.int (nI 0)) ∧ y = x) NoT := by
  refine MM.of (by decide) (Nat.le_of_ble_eq_true rfl) ?_
  have y137 := lay_137
  refine r_aload_n dX10_readNumber_0 rfl (by rfl) ?_
  refine r_callV (n_fine_f h5) mv_X10_fine ml_X10_130 ⟨by decide, by decide⟩ dX10_readNumber_1 (by first | assumption | rfl) rfl rfl rfl (Nat.le_of_ble_eq_true rfl) (fun v9 x9 h9 => ?_)
  obtain ⟨rfl, h9⟩ := h9
  refine PW.xeq h9 ?_
  clear h9 x9
  refine r_if_neB (tgt := 9) dX10_readNumber_4 (by decide) (fun h4 => ?_) (fun h4 => ?_)
  · exact absurd h4 (by decide)
  · refine r_iconst (v := nI 0) dX10_readNumber_7 (by decide) ?_
    refine r_iret rfl dX10_readNumber_8 ?_
    exact ⟨rfl, rfl⟩
set_option maxHeartbeats 8000000 in
set_option maxRecDepth 20000 in
theorem n_sign {g : Nat → Nat} {len a : Nat} {x : XS} (hS : RPs x g len a) {c : Nat} (h5 : x 137 5 = -1) (hc : 1 ≤ c) (hc2 : c < 256) : MM mX10_sign 1 0 0 [.ref 137, .int (nI c)] x (fun v y => v = none ∧ TkP x y len (pTake g len c a)) NoT := by
  refine MM.of (by decide) (Nat.le_of_ble_eq_true rfl) ?_
  have y137 := lay_137
  obtain ⟨_, hl, ha, hal, hg⟩ := id hS
  have hk := skip_le (g := g) hS.2.2.2.1
  have hr9 := hrN_lt (a := a) hS
  have hx9 := hrN_nx (a := a) hS.gg hl hc hc2
  refine r_aload_n dX10_sign_0 rfl (by rfl) ?_
  refine r_callV (n_fine_t h5) mv_X10_fine ml_X10_130 ⟨by decide, by decide⟩ dX10_sign_1 (by first | assumption | rfl) rfl rfl rfl (Nat.le_of_ble_eq_true rfl) (fun v9 x9 h9 => ?_)
  obtain ⟨rfl, h9⟩ := h9
  refine PW.xeq h9 ?_
  clear h9 x9
  refine r_if_eqB (tgt := 24) dX10_sign_4 (by decide) (fun h4 => absurd h4 (by decide)) (fun h4 => ?_)
  refine r_aload_n dX10_sign_7 rfl (by rfl) ?_
  refine r_callV (n_here hS) mv_X10_here ml_X10_113 ⟨by decide, by decide⟩ dX10_sign_8 (by first | assumption | rfl) rfl rfl rfl (Nat.le_of_ble_eq_true rfl) (fun v9 x9 h9 => ?_)
  obtain ⟨rfl, h9⟩ := h9
  refine PW.xeq h9 ?_
  clear h9 x9
  refine r_iload_n dX10_sign_11 rfl (by rfl) ?_
  refine r_icmp_eqN (tgt := 24) dX10_sign_12 (by decide) (by omega) (by omega) (fun h12 => ?_) (fun h12 => ?_)
  · refine r_aload_n dX10_sign_24 rfl (by rfl) ?_
    refine r_callV n_fine mv_X10_fine ml_X10_130 ⟨by decide, by decide⟩ dX10_sign_25 (by first | assumption | rfl) rfl rfl rfl (Nat.le_of_ble_eq_true rfl) (fun v9 x9 h9 => ?_)
    obtain ⟨rfl, h9⟩ := h9
    refine PW.xeq h9 ?_
    clear h9 x9
    refine r_if_eqB (tgt := 41) dX10_sign_28 (by decide) (fun h28 => ?_) (fun h28 => ?_)
    · refine r_ret rfl dX10_sign_41 ?_
      refine ⟨rfl, ?_⟩
      first
        | (exact absurd h4 (by decide))
        | (exact absurd h28 (by rw [decide_eq_true (show xu x 137 4 (nI (skip g len a)) 137 5 = -1 from h5)]; decide))
        | (exact absurd (of_decide_eq_true h28) (nI_ne1 (by omega)))
        | (have ep : pTake g len c a = .ok (skip g len a + 1) := by
             unfold pTake
             rw [if_pos (hx9.mpr h12)]
           rw [ep]
           refine ⟨xu_xu _ _ _ _ _, ?_⟩
           unfold hrN at h12
           split at h12 <;> omega)
        | (have ep : pTake g len c a = .error (1, skip g len a) := by
             unfold pTake
             rw [if_neg (fun q => h12 (hx9.mp q))]
           rw [ep]
           exact ⟨hk, skip g len a, hk, rfl⟩)
    · refine r_aload_n dX10_sign_31 rfl (by rfl) ?_
      refine r_dup dX10_sign_32 rfl ?_
      refine gf_X10_107 rfl dX10_sign_33 (by first | assumption | rfl) (by rfl) ?_
      refine PW.topi (show _ = nI (skip g len a) from rfl) ?_
      refine r_iconst (v := nI 1) dX10_sign_36 (by decide) ?_
      refine r_iaddN dX10_sign_37 ?_
      refine pf_X10_107 rfl dX10_sign_38 (by first | assumption | rfl) (by rfl) ?_
      refine r_ret rfl dX10_sign_41 ?_
      refine ⟨rfl, ?_⟩
      first
        | (exact absurd h4 (by decide))
        | (exact absurd h28 (by rw [decide_eq_true (show xu x 137 4 (nI (skip g len a)) 137 5 = -1 from h5)]; decide))
        | (exact absurd (of_decide_eq_true h28) (nI_ne1 (by omega)))
        | (have ep : pTake g len c a = .ok (skip g len a + 1) := by
             unfold pTake
             rw [if_pos (hx9.mpr h12)]
           rw [ep]
           refine ⟨xu_xu _ _ _ _ _, ?_⟩
           unfold hrN at h12
           split at h12 <;> omega)
        | (have ep : pTake g len c a = .error (1, skip g len a) := by
             unfold pTake
             rw [if_neg (fun q => h12 (hx9.mp q))]
           rw [ep]
           exact ⟨hk, skip g len a, hk, rfl⟩)
  · refine r_aload_n dX10_sign_15 rfl (by rfl) ?_
    refine r_iconst (v := nI 1) dX10_sign_16 (by decide) ?_
    refine r_aload_n dX10_sign_17 rfl (by rfl) ?_
    refine gf_X10_107 rfl dX10_sign_18 (by first | assumption | rfl) (by rfl) ?_
    refine PW.topi (show _ = nI (skip g len a) from xu_s) ?_
    refine r_callV (n_wrong (x := gdX x (skip g len a)) h5) mv_X10_wrong ml_X10_137 ⟨by decide, by decide⟩ dX10_sign_21 (by first | assumption | rfl) rfl rfl rfl (Nat.le_of_ble_eq_true rfl) (fun v9 x9 h9 => ?_)
    obtain ⟨rfl, h9⟩ := h9
    refine PW.xeq h9 ?_
    clear h9 x9
    refine r_aload_n dX10_sign_24 rfl (by rfl) ?_
    refine r_callV n_fine mv_X10_fine ml_X10_130 ⟨by decide, by decide⟩ dX10_sign_25 (by first | assumption | rfl) rfl rfl rfl (Nat.le_of_ble_eq_true rfl) (fun v9 x9 h9 => ?_)
    obtain ⟨rfl, h9⟩ := h9
    refine PW.xeq h9 ?_
    clear h9 x9
    refine r_if_eqB (tgt := 41) dX10_sign_28 (by decide) (fun h28 => ?_) (fun h28 => ?_)
    · refine r_ret rfl dX10_sign_41 ?_
      refine ⟨rfl, ?_⟩
      first
        | (exact absurd h4 (by decide))
        | (exact absurd h28 (by rw [decide_eq_true (show xu x 137 4 (nI (skip g len a)) 137 5 = -1 from h5)]; decide))
        | (exact absurd (of_decide_eq_true h28) (nI_ne1 (by omega)))
        | (have ep : pTake g len c a = .ok (skip g len a + 1) := by
             unfold pTake
             rw [if_pos (hx9.mpr h12)]
           rw [ep]
           refine ⟨xu_xu _ _ _ _ _, ?_⟩
           unfold hrN at h12
           split at h12 <;> omega)
        | (have ep : pTake g len c a = .error (1, skip g len a) := by
             unfold pTake
             rw [if_neg (fun q => h12 (hx9.mp q))]
           rw [ep]
           exact ⟨hk, skip g len a, hk, rfl⟩)
    · refine r_aload_n dX10_sign_31 rfl (by rfl) ?_
      refine r_dup dX10_sign_32 rfl ?_
      refine gf_X10_107 rfl dX10_sign_33 (by first | assumption | rfl) (by rfl) ?_
      refine PW.topi (show _ = nI (skip g len a) from rfl) ?_
      refine r_iconst (v := nI 1) dX10_sign_36 (by decide) ?_
      refine r_iaddN dX10_sign_37 ?_
      refine pf_X10_107 rfl dX10_sign_38 (by first | assumption | rfl) (by rfl) ?_
      refine r_ret rfl dX10_sign_41 ?_
      refine ⟨rfl, ?_⟩
      first
        | (exact absurd h4 (by decide))
        | (exact absurd h28 (by rw [decide_eq_true (show xu x 137 4 (nI (skip g len a)) 137 5 = -1 from h5)]; decide))
        | (exact absurd (of_decide_eq_true h28) (nI_ne1 (by omega)))
        | (have ep : pTake g len c a = .ok (skip g len a + 1) := by
             unfold pTake
             rw [if_pos (hx9.mpr h12)]
           rw [ep]
           refine ⟨xu_xu _ _ _ _ _, ?_⟩
           unfold hrN at h12
           split at h12 <;> omega)
        | (have ep : pTake g len c a = .error (1, skip g len a) := by
             unfold pTake
             rw [if_neg (fun q => h12 (hx9.mp q))]
           rw [ep]
           exact ⟨hk, skip g len a, hk, rfl⟩)
set_option maxHeartbeats 8000000 in
set_option maxRecDepth 20000 in
theorem n_sign_b {c : Int32} {x : XS} (h5 : ¬ x 137 5 = -1) : MM mX10_sign 1 0 0 [.ref 137, .int c] x (fun v y => v = none ∧ y = x) NoT := by
  refine MM.of (by decide) (Nat.le_of_ble_eq_true rfl) ?_
  have y137 := lay_137
  refine r_aload_n dX10_sign_0 rfl (by rfl) ?_
  refine r_callV (n_fine_f h5) mv_X10_fine ml_X10_130 ⟨by decide, by decide⟩ dX10_sign_1 (by first | assumption | rfl) rfl rfl rfl (Nat.le_of_ble_eq_true rfl) (fun v9 x9 h9 => ?_)
  obtain ⟨rfl, h9⟩ := h9
  refine PW.xeq h9 ?_
  clear h9 x9
  refine r_if_eqB (tgt := 24) dX10_sign_4 (by decide) (fun h4 => ?_) (fun h4 => ?_)
  · refine r_aload_n dX10_sign_24 rfl (by rfl) ?_
    refine r_callV (n_fine_f h5) mv_X10_fine ml_X10_130 ⟨by decide, by decide⟩ dX10_sign_25 (by first | assumption | rfl) rfl rfl rfl (Nat.le_of_ble_eq_true rfl) (fun v9 x9 h9 => ?_)
    obtain ⟨rfl, h9⟩ := h9
    refine PW.xeq h9 ?_
    clear h9 x9
    refine r_if_eqB (tgt := 41) dX10_sign_28 (by decide) (fun h28 => ?_) (fun h28 => ?_)
    · refine r_ret rfl dX10_sign_41 ?_
      exact ⟨rfl, rfl⟩
    · exact absurd h28 (by decide)
  · exact absurd h4 (by decide)
abbrev bgX (x : XS) (n : Nat) : XS := xu (xu (xu (xu (xu (xu x 137 2 (nI 0)) 137 8 (-1)) 137 3 (nI n)) 137 4 (nI 0)) 137 5 (-1)) 137 7 (nI 0)
set_option maxHeartbeats 8000000 in
set_option maxRecDepth 20000 in
theorem n_begins {n : Nat} {x : XS} : MM mX10_begins 0 0 0 [.ref 137, .int (nI n)] x (fun v y => v = none ∧ y = bgX x n) NoT := by
  refine MM.of (by decide) (Nat.le_of_ble_eq_true rfl) ?_
  have y137 := lay_137
  refine r_aload_n dX10_begins_0 rfl (by rfl) ?_
  refine r_iconst (v := nI 0) dX10_begins_1 (by decide) ?_
  refine pf_X10_98 rfl dX10_begins_2 (by first | assumption | rfl) (by rfl) ?_
  refine r_aload_n dX10_begins_5 rfl (by rfl) ?_
  refine r_iconst (v := -1) dX10_begins_6 (by decide) ?_
  refine pf_X10_17 rfl dX10_begins_7 (by first | assumption | rfl) (by rfl) ?_
  refine r_aload_n dX10_begins_10 rfl (by rfl) ?_
  refine r_iload_n dX10_begins_11 rfl (by rfl) ?_
  refine pf_X10_110 rfl dX10_begins_12 (by first | assumption | rfl) (by rfl) ?_
  refine r_aload_n dX10_begins_15 rfl (by rfl) ?_
  refine r_iconst (v := nI 0) dX10_begins_16 (by decide) ?_
  refine pf_X10_107 rfl dX10_begins_17 (by first | assumption | rfl) (by rfl) ?_
  refine r_aload_n dX10_begins_20 rfl (by rfl) ?_
  refine r_iconst (v := -1) dX10_begins_21 (by decide) ?_
  refine pf_X10_101 rfl dX10_begins_22 (by first | assumption | rfl) (by rfl) ?_
  refine r_aload_n dX10_begins_25 rfl (by rfl) ?_
  refine r_iconst (v := nI 0) dX10_begins_26 (by decide) ?_
  refine pf_X10_141 rfl dX10_begins_27 (by first | assumption | rfl) (by rfl) ?_
  refine r_ret rfl dX10_begins_30 ?_
  exact ⟨rfl, rfl⟩
set_option maxHeartbeats 8000000 in
set_option maxRecDepth 20000 in
theorem n_result {w : Int32} {x : XS} : MM mX10_result 1 0 0 [.ref 137, .int w] x (fun v y => v = some (.int (if x 137 5 = -1 then w else x 137 6 - nI 10)) ∧ y = xu x 137 8 (x 137 5)) NoT := by
  refine MM.of (by decide) (Nat.le_of_ble_eq_true rfl) ?_
  have y137 := lay_137
  refine r_aload_n dX10_result_0 rfl (by rfl) ?_
  refine r_aload_n dX10_result_1 rfl (by rfl) ?_
  refine gf_X10_101 rfl dX10_result_2 (by first | assumption | rfl) (by rfl) ?_
  refine pf_X10_17 rfl dX10_result_5 (by first | assumption | rfl) (by rfl) ?_
  refine r_aload_n dX10_result_8 rfl (by rfl) ?_
  refine r_callV n_fine mv_X10_fine ml_X10_130 ⟨by decide, by decide⟩ dX10_result_9 (by first | assumption | rfl) rfl rfl rfl (Nat.le_of_ble_eq_true rfl) (fun v9 x9 h9 => ?_)
  obtain ⟨rfl, h9⟩ := h9
  refine PW.xeq h9 ?_
  clear h9 x9
  refine r_if_eqB (tgt := 19) dX10_result_12 (by decide) (fun h12 => ?_) (fun h12 => ?_)
  · refine r_aload_n dX10_result_19 rfl (by rfl) ?_
    refine gf_X10_104 rfl dX10_result_20 (by first | assumption | rfl) (by rfl) ?_
    refine r_bipush (v := nI 10) dX10_result_23 (by decide) ?_
    refine r_isub dX10_result_25 ?_
    refine r_iret rfl dX10_result_26 ?_
    first
      | exact ⟨by rw [if_pos (show x 137 5 = -1 from of_decide_eq_true h12)], rfl⟩
      | exact ⟨by rw [if_neg (show ¬ x 137 5 = -1 from of_decide_eq_false h12)]; rfl, rfl⟩
  · refine r_iload_n dX10_result_15 rfl (by rfl) ?_
    refine r_goto (tgt := 26) dX10_result_16 (by decide) ?_
    refine r_iret rfl dX10_result_26 ?_
    first
      | exact ⟨by rw [if_pos (show x 137 5 = -1 from of_decide_eq_true h12)], rfl⟩
      | exact ⟨by rw [if_neg (show ¬ x 137 5 = -1 from of_decide_eq_false h12)]; rfl, rfl⟩
