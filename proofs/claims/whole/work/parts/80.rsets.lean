/-! THE REFERENCE: clears, sets -/
def cz (z : XS) (c : Nat) : Nat → XS
  | 0 => z
  | i + 1 => xu (cz z c i) c i (nI 0)
theorem cz_n {z : XS} {c d : Nat} (h : d ≠ c) : ∀ i, cz z c i d = z d
  | 0 => rfl
  | i + 1 => (xu_n h).trans (cz_n h i)
theorem cz_row {z : XS} {c j : Nat} : ∀ i, j < i → cz z c i c j = nI 0
  | 0, h => absurd h (Nat.not_lt_zero _)
  | i + 1, h => by
    show xu (cz z c i) c i (nI 0) c j = nI 0
    by_cases e : j = i
    · subst e; exact xu_s
    · rw [xu_k e]; exact cz_row i (by omega)
def cl0 (x : XS) : XS := xu (xu (xu (xu x 137 14 (nI 0)) 137 15 (nI 0)) 137 16 (nI 10)) 137 17 (nI 9)
def clX (x : XS) : XS := cz (cl0 x) 141 60
theorem clX_DR (x : XS) : DR (clX x) h0 := by
  have e : clX x 137 = cl0 x 137 := cz_n (by decide) 60
  unfold DR
  rw [e]
  exact ⟨rfl, rfl, rfl, rfl, by decide, by decide, fun k _ p hp => absurd hp (Nat.not_lt_zero _), fun m hm => cz_row 60 hm⟩
theorem clX_hk (x : XS) : HK x (clX x) := ⟨fun c a b d => (cz_n d 60).trans ((xu_n a).trans ((xu_n a).trans ((xu_n a).trans (xu_n a)))), fun k a b => by
  rw [show clX x 137 = cl0 x 137 from cz_n (by decide) 60]
  unfold cl0
  rw [xu_k (by omega), xu_k (by omega), xu_k (by omega), xu_k (by omega)]⟩
set_option maxHeartbeats 8000000 in
set_option maxRecDepth 20000 in
theorem n_clears {x : XS} : MM mX10_clears 0 0 0 [.ref 137] x (fun v y => v = none ∧ y = clX x) NoT := by
  refine MM.of (by decide) (Nat.le_of_ble_eq_true rfl) ?_
  have y137 := lay_137
  have y141 := lay_141
  refine r_aload_n dX10_clears_0 rfl (by rfl) ?_
  refine r_iconst (v := nI 0) dX10_clears_1 (by decide) ?_
  refine pf_X10_144 rfl dX10_clears_2 (by first | assumption | rfl) (by rfl) ?_
  refine r_aload_n dX10_clears_5 rfl (by rfl) ?_
  refine r_iconst (v := nI 0) dX10_clears_6 (by decide) ?_
  refine pf_X10_147 rfl dX10_clears_7 (by first | assumption | rfl) (by rfl) ?_
  refine r_aload_n dX10_clears_10 rfl (by rfl) ?_
  refine r_bipush (v := nI 10) dX10_clears_11 (by decide) ?_
  refine pf_X10_150 rfl dX10_clears_13 (by first | assumption | rfl) (by rfl) ?_
  refine r_aload_n dX10_clears_16 rfl (by rfl) ?_
  refine r_bipush (v := nI 9) dX10_clears_17 (by decide) ?_
  refine pf_X10_153 rfl dX10_clears_19 (by first | assumption | rfl) (by rfl) ?_
  refine r_iconst (v := nI 0) dX10_clears_22 (by decide) ?_
  refine r_istore_n dX10_clears_23 rfl (by decide) ?_
  refine PW.loop (σ := Nat) (fun i => 60 - i) (fun i => i ≤ 60) (fun i => [(0, .ref 137), (1, .int (nI i))]) (fun i => cz (cl0 x) 141 i) (0) (Nat.zero_le _) rfl rfl (fun i hi ih => ?_)
  refine r_iload_n dX10_clears_24 rfl (by rfl) ?_
  refine r_bipush (v := nI 60) dX10_clears_25 (by decide) ?_
  refine r_icmp_geN (tgt := 43) dX10_clears_27 (by decide) (by omega) (by omega) (fun h27 => ?_) (fun h27 => ?_)
  · refine r_ret rfl dX10_clears_43 ?_
    exact ⟨rfl, by rw [show i = 60 by omega]; rfl⟩
  · refine r_aload_n dX10_clears_30 rfl (by rfl) ?_
    refine gf_X10_26 rfl dX10_clears_31 (by first | assumption | rfl) (by rfl) ?_
    refine r_iload_n dX10_clears_34 rfl (by rfl) ?_
    refine r_iconst (v := nI 0) dX10_clears_35 (by decide) ?_
    refine r_iastN dX10_clears_36 (by first | assumption | rfl) (by omega) (by decide) ?_
    refine r_iincN dX10_clears_37 (by rfl) (by decide) ?_
    refine r_goto (tgt := 24) dX10_clears_40 (by decide) ?_
    exact PW.lc (by rfl) rfl (ih (i + 1) (show i + 1 ≤ 60 by omega) (show 60 - (i + 1) < 60 - i by omega))
def se0 (x : XS) (h : HS) : XS := xu (xu (xu x 137 18 (nI (HS.n h))) 137 19 (nI (HS.wall h))) 137 20 (nI (HS.over h))
def se1 (x : XS) (h : HS) : XS := xr (se0 x h) 142 (cpR (se0 x h 142) (se0 x h 140) 40)
def se2 (x : XS) (h : HS) : XS := xr (se1 x h) 143 (cpR (se1 x h 143) (se1 x h 141) 60)
def se3 (x : XS) (h : HS) : XS := xu (xu (xu (xu (xu (xu (se2 x h) 148 0 (nI 0)) 148 1 (nI 0)) 137 45 (nI 0)) 137 32 (nI 0)) 137 52 (nI 0)) 137 33 (nI 0)
def s5 (z : XS) : Nat → XS
  | 0 => z
  | i + 1 => xu (xu (xu (s5 z i) 153 (0 + i) (s5 z i 142 (8 * i + 0))) 153 (5 + i) (s5 z i 142 (8 * i + 3))) 153 (10 + i) (s5 z i 142 (8 * i + 6))
theorem s5_n {z : XS} {c : Nat} (h : c ≠ 153) : ∀ i, s5 z i c = z c
  | 0 => rfl
  | i + 1 => (xu_n h).trans ((xu_n h).trans ((xu_n h).trans (s5_n h i)))
def seX (x : XS) (h : HS) : XS := s5 (cz (se3 x h) 153 42) (HS.n h)
theorem se3_n {x : XS} {h : HS} {c : Nat} (h1 : c ≠ 137) (h2 : c ≠ 142) (h3 : c ≠ 143) (h4 : c ≠ 148) : se3 x h c = x c := by
  unfold se3
  rw [xu_n h1, xu_n h1, xu_n h1, xu_n h1, xu_n h4, xu_n h4]
  show xr (se1 x h) 143 _ c = _
  rw [xr_n h3]
  show xr (se0 x h) 142 _ c = _
  rw [xr_n h2]
  unfold se0
  rw [xu_n h1, xu_n h1, xu_n h1]
theorem seX_c {x : XS} {h : HS} {c : Nat} (h1 : c ≠ 153) : seX x h c = se3 x h c := (s5_n h1 _).trans (cz_n h1 42)
theorem se3_7 {x : XS} {h : HS} {k : Nat} (h1 : k ≠ 18) (h2 : k ≠ 19) (h3 : k ≠ 20) (h4 : k ≠ 45) (h5 : k ≠ 32) (h6 : k ≠ 52) (h7 : k ≠ 33) : se3 x h 137 k = x 137 k := by
  unfold se3
  rw [xu_k h7, xu_k h6, xu_k h5, xu_k h4, xu_n (by decide), xu_n (by decide)]
  show xr (se1 x h) 143 _ 137 k = _
  rw [xr_n (by decide)]
  show xr (se0 x h) 142 _ 137 k = _
  rw [xr_n (by decide)]
  unfold se0
  rw [xu_k h3, xu_k h2, xu_k h1]
theorem se3_142 {x : XS} {h : HS} {j : Nat} (hj : j < 40) : se3 x h 142 j = x 140 j := cpR_lt 40 hj
theorem se3_143 {x : XS} {h : HS} {j : Nat} (hj : j < 60) : se3 x h 143 j = x 141 j := cpR_lt 60 hj
theorem s5_RR {z : XS} {E : NE} (h0 : RRow rd0 (z 153)) (hn : eN E ≤ 5) (hE : ∀ k, k < 8 → ∀ p, p < eN E → z 142 (8 * p + k) = eH E k p) : ∀ i, i ≤ eN E → RRow (bgr E i) (s5 z i 153)
  | 0, _ => h0
  | i + 1, hi => by
    have ih := s5_RR h0 hn hE i (by omega)
    show RRow (upd (upd (upd (bgr E i) (0 + i) (eH E 0 i)) (5 + i) (eH E 3 i)) (35 + i) (eH E 6 i)) (upd (upd (upd (s5 z i 153) (0 + i) (s5 z i 142 (8 * i + 0))) (5 + i) (s5 z i 142 (8 * i + 3))) (10 + i) (s5 z i 142 (8 * i + 6)))
    rw [s5_n (show 142 ≠ 153 by decide), hE 0 (by decide) i (by omega), hE 3 (by decide) i (by omega), hE 6 (by decide) i (by omega)]
    exact ((ih.tired (by omega)).room (by omega)).plugs (by omega)
theorem zero_RR {g : Nat → Int32} (h : ∀ j, j < 42 → g j = nI 0) : RRow rd0 g := ⟨fun p hp => ⟨h _ (by omega), h _ (by omega), h _ (by omega), h _ (by omega), h _ (by omega), h _ (by omega), h _ (by omega), fun _ _ => h _ (by omega)⟩, h _ (by omega), h _ (by omega)⟩
theorem seX_RE {x : XS} {h : HS} (hd : DR x h) : RRe (seX x h) (hsE h) ∧ seX x h 137 19 = nI (HS.wall h) ∧ RRow (bgr (hsE h) (HS.n h)) (seX x h 153) := by
  obtain ⟨h1, h2, h3, h4, h5, h6, h7, h8⟩ := hd
  have e7 : seX x h 137 = se3 x h 137 := seX_c (by decide)
  have e42 : seX x h 142 = se3 x h 142 := seX_c (by decide)
  have e43 : seX x h 143 = se3 x h 143 := seX_c (by decide)
  have e48 : seX x h 148 = se3 x h 148 := seX_c (by decide)
  refine ⟨⟨?_, h5, fun k hk p hp => ?_, fun m hm => ?_, ?_, ⟨loudL_LW, Or.inl ⟨?_, rfl⟩⟩, ⟨fallsL_LW, Or.inl ⟨?_, rfl⟩⟩⟩, ?_, ?_⟩
  · rw [e7]; rfl
  · rw [e42, se3_142 (by have hp : p < HS.n h := hp; omega)]; exact h7 k hk p hp
  · rw [e43, se3_143 hm]; exact h8 m hm
  · rw [e7]; rfl
  · rw [e48]; rfl
  · rw [e48]; rfl
  · rw [e7]; rfl
  · refine s5_RR (E := hsE h) (zero_RR (fun j hj => cz_row 42 hj)) h5 (fun k hk p hp => ?_) _ (Nat.le_refl _)
    have hp : p < HS.n h := hp
    rw [cz_n (by decide), se3_142 (by omega)]
    exact h7 k hk p hp
set_option maxHeartbeats 8000000 in
set_option maxRecDepth 20000 in
theorem n_sets {h : HS} {x : XS} (hd : DR x h) : MM mX10_sets 1 0 0 [.ref 137] x (fun v y => v = none ∧ y = seX x h) NoT := by
  refine MM.of (by decide) (Nat.le_of_ble_eq_true rfl) ?_
  have y137 := lay_137
  have y140 := lay_140
  have y141 := lay_141
  have y142 := lay_142
  have y143 := lay_143
  have y148 := lay_148
  have y153 := lay_153
  have h5 := hd.2.2.2.2.1
  refine r_aload_n dX10_sets_0 rfl (by rfl) ?_
  refine r_aload_n dX10_sets_1 rfl (by rfl) ?_
  refine gf_X10_144 rfl dX10_sets_2 (by first | assumption | rfl) (by rfl) ?_
  refine PW.topi hd.1 ?_
  refine pf_X10_156 rfl dX10_sets_5 (by first | assumption | rfl) (by rfl) ?_
  refine r_aload_n dX10_sets_8 rfl (by rfl) ?_
  refine r_aload_n dX10_sets_9 rfl (by rfl) ?_
  refine gf_X10_150 rfl dX10_sets_10 (by first | assumption | rfl) (by rfl) ?_
  refine PW.topi (show _ = nI (HS.wall h) from hd.2.2.1) ?_
  refine pf_X10_159 rfl dX10_sets_13 (by first | assumption | rfl) (by rfl) ?_
  refine r_aload_n dX10_sets_16 rfl (by rfl) ?_
  refine r_aload_n dX10_sets_17 rfl (by rfl) ?_
  refine gf_X10_153 rfl dX10_sets_18 (by first | assumption | rfl) (by rfl) ?_
  refine PW.topi (show _ = nI (HS.over h) from hd.2.2.2.1) ?_
  refine pf_X10_162 rfl dX10_sets_21 (by first | assumption | rfl) (by rfl) ?_
  refine r_aload_n dX10_sets_24 rfl (by rfl) ?_
  refine r_aload_n dX10_sets_25 rfl (by rfl) ?_
  refine gf_X10_23 rfl dX10_sets_26 (by first | assumption | rfl) (by rfl) ?_
  refine r_aload_n dX10_sets_29 rfl (by rfl) ?_
  refine gf_X10_29 rfl dX10_sets_30 (by first | assumption | rfl) (by rfl) ?_
  refine r_bipush (v := nI 40) dX10_sets_33 (by decide) ?_
  refine r_callV (c_copies (sc := 140) (dc := 142) (n := 40) lay_140 lay_142 (by decide) (by decide) (by decide) (by decide) (by decide)) mv_X10_copies ml_X10_165 ⟨by decide, by decide⟩ dX10_sets_35 (by first | assumption | rfl) rfl rfl rfl (Nat.le_of_ble_eq_true rfl) (fun v9 x9 h9 => ?_)
  obtain ⟨rfl, h9⟩ := h9
  refine PW.xeq h9 ?_
  clear h9 x9
  refine r_aload_n dX10_sets_38 rfl (by rfl) ?_
  refine r_aload_n dX10_sets_39 rfl (by rfl) ?_
  refine gf_X10_26 rfl dX10_sets_40 (by first | assumption | rfl) (by rfl) ?_
  refine r_aload_n dX10_sets_43 rfl (by rfl) ?_
  refine gf_X10_32 rfl dX10_sets_44 (by first | assumption | rfl) (by rfl) ?_
  refine r_bipush (v := nI 60) dX10_sets_47 (by decide) ?_
  refine r_callV (c_copies (sc := 141) (dc := 143) (n := 60) lay_141 lay_143 (by decide) (by decide) (by decide) (by decide) (by decide)) mv_X10_copies ml_X10_165 ⟨by decide, by decide⟩ dX10_sets_49 (by first | assumption | rfl) rfl rfl rfl (Nat.le_of_ble_eq_true rfl) (fun v9 x9 h9 => ?_)
  obtain ⟨rfl, h9⟩ := h9
  refine PW.xeq h9 ?_
  clear h9 x9
  refine r_aload_n dX10_sets_52 rfl (by rfl) ?_
  refine gf_X10_47 rfl dX10_sets_53 (by first | assumption | rfl) (by rfl) ?_
  refine r_iconst (v := nI 0) dX10_sets_56 (by decide) ?_
  refine r_iconst (v := nI 0) dX10_sets_57 (by decide) ?_
  refine r_iastN dX10_sets_58 (by first | assumption | rfl) (by omega) (by decide) ?_
  refine r_aload_n dX10_sets_59 rfl (by rfl) ?_
  refine gf_X10_47 rfl dX10_sets_60 (by first | assumption | rfl) (by rfl) ?_
  refine r_iconst (v := nI 1) dX10_sets_63 (by decide) ?_
  refine r_iconst (v := nI 0) dX10_sets_64 (by decide) ?_
  refine r_iastN dX10_sets_65 (by first | assumption | rfl) (by omega) (by decide) ?_
  refine r_aload_n dX10_sets_66 rfl (by rfl) ?_
  refine r_iconst (v := nI 0) dX10_sets_67 (by decide) ?_
  refine pf_X10_169 rfl dX10_sets_68 (by first | assumption | rfl) (by rfl) ?_
  refine r_aload_n dX10_sets_71 rfl (by rfl) ?_
  refine r_iconst (v := nI 0) dX10_sets_72 (by decide) ?_
  refine pf_X10_172 rfl dX10_sets_73 (by first | assumption | rfl) (by rfl) ?_
  refine r_aload_n dX10_sets_76 rfl (by rfl) ?_
  refine r_iconst (v := nI 0) dX10_sets_77 (by decide) ?_
  refine pf_X10_175 rfl dX10_sets_78 (by first | assumption | rfl) (by rfl) ?_
  refine r_aload_n dX10_sets_81 rfl (by rfl) ?_
  refine r_iconst (v := nI 0) dX10_sets_82 (by decide) ?_
  refine pf_X10_178 rfl dX10_sets_83 (by first | assumption | rfl) (by rfl) ?_
  refine r_iconst (v := nI 0) dX10_sets_86 (by decide) ?_
  refine r_istore_n dX10_sets_87 rfl (by decide) ?_
  refine PW.loop (σ := Nat) (fun i => 42 - i) (fun i => i ≤ 42) (fun i => [(0, .ref 137), (1, .int (nI i))]) (fun i => cz (se3 x h) 153 i) (0) (Nat.zero_le _) rfl rfl (fun i hi ih => ?_)
  refine r_iload_n dX10_sets_88 rfl (by rfl) ?_
  refine r_bipush (v := nI 42) dX10_sets_89 (by decide) ?_
  refine r_icmp_geN (tgt := 107) dX10_sets_91 (by decide) (by omega) (by omega) (fun h91 => ?_) (fun h91 => ?_)
  · refine r_iconst (v := nI 0) dX10_sets_107 (by decide) ?_
    refine r_istore_n dX10_sets_108 rfl (by decide) ?_
    refine PW.xeq (show cz (se3 x h) 153 i = cz (se3 x h) 153 42 from (by rw [show i = 42 by omega])) ?_
    refine PW.loop (σ := Nat) (fun i => HS.n h - i) (fun i => i ≤ HS.n h) (fun i => [(0, .ref 137), (1, .int (nI i))]) (fun i => s5 (cz (se3 x h) 153 42) i) (0) (Nat.zero_le _) rfl rfl (fun i hi ih => ?_)
    refine r_iload_n dX10_sets_109 rfl (by rfl) ?_
    refine r_aload_n dX10_sets_110 rfl (by rfl) ?_
    refine gf_X10_156 rfl dX10_sets_111 (by first | assumption | rfl) (by rfl) ?_
    refine PW.topi (show _ = nI (HS.n h) from (by rw [s5_n (by decide), cz_n (by decide)]; rfl)) ?_
    refine r_icmp_geN (tgt := 182) dX10_sets_114 (by decide) (by omega) (by omega) (fun h114 => ?_) (fun h114 => ?_)
    · refine r_ret rfl dX10_sets_182 ?_
      exact ⟨rfl, by rw [show i = HS.n h by omega]; rfl⟩
    · refine r_aload_n dX10_sets_117 rfl (by rfl) ?_
      refine gf_X10_62 rfl dX10_sets_118 (by first | assumption | rfl) (by rfl) ?_
      refine r_iconst (v := nI 0) dX10_sets_121 (by decide) ?_
      refine r_iload_n dX10_sets_122 rfl (by rfl) ?_
      refine r_iaddN dX10_sets_123 ?_
      refine r_aload_n dX10_sets_124 rfl (by rfl) ?_
      refine gf_X10_29 rfl dX10_sets_125 (by first | assumption | rfl) (by rfl) ?_
      refine r_bipush (v := nI 8) dX10_sets_128 (by decide) ?_
      refine r_iload_n dX10_sets_130 rfl (by rfl) ?_
      refine r_imulN dX10_sets_131 ?_
      refine r_iconst (v := nI 0) dX10_sets_132 (by decide) ?_
      refine r_iaddN dX10_sets_133 ?_
      refine r_ialdN dX10_sets_134 (by first | assumption | rfl) (by omega) (by decide) ?_
      refine r_iastN dX10_sets_135 (by first | assumption | rfl) (by omega) (by decide) ?_
      refine r_aload_n dX10_sets_136 rfl (by rfl) ?_
      refine gf_X10_62 rfl dX10_sets_137 (by first | assumption | rfl) (by rfl) ?_
      refine r_iconst (v := nI 5) dX10_sets_140 (by decide) ?_
      refine r_iload_n dX10_sets_141 rfl (by rfl) ?_
      refine r_iaddN dX10_sets_142 ?_
      refine r_aload_n dX10_sets_143 rfl (by rfl) ?_
      refine gf_X10_29 rfl dX10_sets_144 (by first | assumption | rfl) (by rfl) ?_
      refine r_bipush (v := nI 8) dX10_sets_147 (by decide) ?_
      refine r_iload_n dX10_sets_149 rfl (by rfl) ?_
      refine r_imulN dX10_sets_150 ?_
      refine r_iconst (v := nI 3) dX10_sets_151 (by decide) ?_
      refine r_iaddN dX10_sets_152 ?_
      refine r_ialdN dX10_sets_153 (by first | assumption | rfl) (by omega) (by decide) ?_
      refine r_iastN dX10_sets_154 (by first | assumption | rfl) (by omega) (by decide) ?_
      refine r_aload_n dX10_sets_155 rfl (by rfl) ?_
      refine gf_X10_62 rfl dX10_sets_156 (by first | assumption | rfl) (by rfl) ?_
      refine r_bipush (v := nI 10) dX10_sets_159 (by decide) ?_
      refine r_iload_n dX10_sets_161 rfl (by rfl) ?_
      refine r_iaddN dX10_sets_162 ?_
      refine r_aload_n dX10_sets_163 rfl (by rfl) ?_
      refine gf_X10_29 rfl dX10_sets_164 (by first | assumption | rfl) (by rfl) ?_
      refine r_bipush (v := nI 8) dX10_sets_167 (by decide) ?_
      refine r_iload_n dX10_sets_169 rfl (by rfl) ?_
      refine r_imulN dX10_sets_170 ?_
      refine r_bipush (v := nI 6) dX10_sets_171 (by decide) ?_
      refine r_iaddN dX10_sets_173 ?_
      refine r_ialdN dX10_sets_174 (by first | assumption | rfl) (by omega) (by decide) ?_
      refine r_iastN dX10_sets_175 (by first | assumption | rfl) (by omega) (by decide) ?_
      refine r_iincN dX10_sets_176 (by rfl) (by decide) ?_
      refine r_goto (tgt := 109) dX10_sets_179 (by decide) ?_
      exact PW.lc (by rfl) rfl (ih (i + 1) (show i + 1 ≤ HS.n h by omega) (show HS.n h - (i + 1) < HS.n h - i by omega))
  · refine r_aload_n dX10_sets_94 rfl (by rfl) ?_
    refine gf_X10_62 rfl dX10_sets_95 (by first | assumption | rfl) (by rfl) ?_
    refine r_iload_n dX10_sets_98 rfl (by rfl) ?_
    refine r_iconst (v := nI 0) dX10_sets_99 (by decide) ?_
    refine r_iastN dX10_sets_100 (by first | assumption | rfl) (by omega) (by decide) ?_
    refine r_iincN dX10_sets_101 (by rfl) (by decide) ?_
    refine r_goto (tgt := 88) dX10_sets_104 (by decide) ?_
    exact PW.lc (by rfl) rfl (ih (i + 1) (show i + 1 ≤ 42 by omega) (show 42 - (i + 1) < 42 - i by omega))
theorem n_stands2 {x : XS} {g : Nat → Nat} {len a : Nat} (hS : RPs x g len a) : MM mX10_standsHere 4 0 0 [.ref 137, .ref (1000 + 3)] (gdX x (skip g len a)) (fun v y => v = some (.int (bI (slB g len a))) ∧ y = gdX x (skip g len a)) NoT := by
  refine MM.imp (n_stands (hS.gd (skip_le hS.2.2.2.1))) (fun v y h => ?_)
  obtain ⟨rfl, rfl⟩ := h
  refine ⟨?_, ?_⟩
  · unfold slB
    rw [skip_skip]
  · rw [skip_skip]
    exact xu_xu _ _ _ _ _
set_option maxRecDepth 100000 in
theorem of_ne : ∀ i, i < 25 → 4 ≤ i → ∀ j, j < 25 → 4 ≤ j → i ≠ j → ofW i ≠ ofW j := by
  have w : ∀ i, i < 25 → ∀ j, j < 25 → (decide (4 ≤ i) && decide (4 ≤ j) && decide (i ≠ j) && decide (ofW i = ofW j)) = false := by decide +kernel
  intro i h1 h2 j h3 h4 h5 e
  have := w i h1 j h3
  rw [decide_eq_true h2, decide_eq_true h4, decide_eq_true h5, decide_eq_true e] at this
  cases this
theorem wd0_sl {g : Nat → Nat} {len a : Nat} (h : slB g len a = true) : pWord g len 0 a = .ok (0, smE g len (skip g len a)) := by
  unfold pWord wrd
  rw [wkey0, if_pos (show isW _ _ _ _ _ _ = true from h)]
theorem wd0_no {g : Nat → Nat} {len a : Nat} (h : slB g len a = true) : wdN g len a ≠ ofW 10 := by
  intro e
  have h1 := (w0_clock g len a).mp e
  have h2 := (sl_t h).1
  unfold isW at h1
  rw [Bool.and_eq_true, decide_eq_true_eq] at h1
  have := h1.1
  omega
theorem wd0_none {g : Nat → Nat} {len a : Nat} (h : slB g len a = false) (hr : rowB (wdN g len a) = false) : pWord g len 0 a = .error (1, skip g len a) := by
  have hr := of_decide_eq_false hr
  unfold pWord wrd
  rw [wkey0, if_neg (show ¬ isW _ _ _ _ _ _ = true from fun q => absurd (h.symm.trans q) (by decide)), if_neg (fun q => hr (Or.inl ((w0_wine g len a).mpr q))), if_neg (fun q => hr (Or.inr (Or.inl ((w0_cold g len a).mpr q)))), if_neg (fun q => hr (Or.inr (Or.inr (Or.inl ((w0_plug g len a).mpr q))))), if_neg (fun q => hr (Or.inr (Or.inr (Or.inr (Or.inl ((w0_owes g len a).mpr q)))))), if_neg (fun q => hr (Or.inr (Or.inr (Or.inr (Or.inr (Or.inl ((w0_wall g len a).mpr q))))))), if_neg (fun q => hr (Or.inr (Or.inr (Or.inr (Or.inr (Or.inr (Or.inl ((w0_over g len a).mpr q)))))))), if_neg (fun q => hr (Or.inr (Or.inr (Or.inr (Or.inr (Or.inr (Or.inr ((w0_clock g len a).mpr q))))))))]
theorem wd0_row {g : Nat → Nat} {len a : Nat} (h : slB g len a = false) (hr : rowB (wdN g len a) = true) : ∃ wk, pWord g len 0 a = .ok (wk, smE g len (skip g len a)) ∧ (∀ h b c, ¬ (wdN g len a = ofW 10 ∧ 6 ≤ HS.ck h) → pClause g len wk h b c = rwP g len (wdN g len a) h c) ∧ (wdN g len a = ofW 10 → ∀ h b c, 6 ≤ HS.ck h → pClause g len wk h b c = .error (3, b)) := by
  have hr := of_decide_eq_true hr
  have n0 : ¬ isW g 0 (skip g len a) (smE g len (skip g len a)) 0 7 = true := fun q => absurd (h.symm.trans q) (by decide)
  rcases hr with e | e | e | e | e | e | e
  · refine ⟨1, ?_, fun h b c hc => ?_, fun e2 h b c hc => ?_⟩
    · unfold pWord wrd
      rw [wkey0, if_neg n0, if_pos ((w0_wine g len a).mp e)]
    · rw [e]
      unfold rwP
      rw [if_pos rfl]
      rfl
    · exact absurd (e.symm.trans e2) (of_ne 4 (by decide) (by decide) 10 (by decide) (by decide) (by decide))
  · refine ⟨2, ?_, fun h b c hc => ?_, fun e2 h b c hc => ?_⟩
    · unfold pWord wrd
      rw [wkey0, if_neg n0, if_neg (fun q => of_ne 5 (by decide) (by decide) 4 (by decide) (by decide) (by decide) (e.symm.trans ((w0_wine g len a).mpr q))), if_pos ((w0_cold g len a).mp e)]
    · rw [e]
      unfold rwP
      rw [if_neg (of_ne 5 (by decide) (by decide) 4 (by decide) (by decide) (by decide)), if_pos rfl]
      rfl
    · exact absurd (e.symm.trans e2) (of_ne 5 (by decide) (by decide) 10 (by decide) (by decide) (by decide))
  · refine ⟨3, ?_, fun h b c hc => ?_, fun e2 h b c hc => ?_⟩
    · unfold pWord wrd
      rw [wkey0, if_neg n0, if_neg (fun q => of_ne 6 (by decide) (by decide) 4 (by decide) (by decide) (by decide) (e.symm.trans ((w0_wine g len a).mpr q))), if_neg (fun q => of_ne 6 (by decide) (by decide) 5 (by decide) (by decide) (by decide) (e.symm.trans ((w0_cold g len a).mpr q))), if_pos ((w0_plug g len a).mp e)]
    · rw [e]
      unfold rwP
      rw [if_neg (of_ne 6 (by decide) (by decide) 4 (by decide) (by decide) (by decide)), if_neg (of_ne 6 (by decide) (by decide) 5 (by decide) (by decide) (by decide)), if_pos rfl]
      rfl
    · exact absurd (e.symm.trans e2) (of_ne 6 (by decide) (by decide) 10 (by decide) (by decide) (by decide))
  · refine ⟨4, ?_, fun h b c hc => ?_, fun e2 h b c hc => ?_⟩
    · unfold pWord wrd
      rw [wkey0, if_neg n0, if_neg (fun q => of_ne 7 (by decide) (by decide) 4 (by decide) (by decide) (by decide) (e.symm.trans ((w0_wine g len a).mpr q))), if_neg (fun q => of_ne 7 (by decide) (by decide) 5 (by decide) (by decide) (by decide) (e.symm.trans ((w0_cold g len a).mpr q))), if_neg (fun q => of_ne 7 (by decide) (by decide) 6 (by decide) (by decide) (by decide) (e.symm.trans ((w0_plug g len a).mpr q))), if_pos ((w0_owes g len a).mp e)]
    · rw [e]
      unfold rwP
      rw [if_neg (of_ne 7 (by decide) (by decide) 4 (by decide) (by decide) (by decide)), if_neg (of_ne 7 (by decide) (by decide) 5 (by decide) (by decide) (by decide)), if_neg (of_ne 7 (by decide) (by decide) 6 (by decide) (by decide) (by decide)), if_pos rfl]
      rfl
    · exact absurd (e.symm.trans e2) (of_ne 7 (by decide) (by decide) 10 (by decide) (by decide) (by decide))
  · refine ⟨5, ?_, fun h b c hc => ?_, fun e2 h b c hc => ?_⟩
    · unfold pWord wrd
      rw [wkey0, if_neg n0, if_neg (fun q => of_ne 8 (by decide) (by decide) 4 (by decide) (by decide) (by decide) (e.symm.trans ((w0_wine g len a).mpr q))), if_neg (fun q => of_ne 8 (by decide) (by decide) 5 (by decide) (by decide) (by decide) (e.symm.trans ((w0_cold g len a).mpr q))), if_neg (fun q => of_ne 8 (by decide) (by decide) 6 (by decide) (by decide) (by decide) (e.symm.trans ((w0_plug g len a).mpr q))), if_neg (fun q => of_ne 8 (by decide) (by decide) 7 (by decide) (by decide) (by decide) (e.symm.trans ((w0_owes g len a).mpr q))), if_pos ((w0_wall g len a).mp e)]
    · rw [e]
      unfold rwP
      rw [if_neg (of_ne 8 (by decide) (by decide) 4 (by decide) (by decide) (by decide)), if_neg (of_ne 8 (by decide) (by decide) 5 (by decide) (by decide) (by decide)), if_neg (of_ne 8 (by decide) (by decide) 6 (by decide) (by decide) (by decide)), if_neg (of_ne 8 (by decide) (by decide) 7 (by decide) (by decide) (by decide)), if_pos rfl]
      rfl
    · exact absurd (e.symm.trans e2) (of_ne 8 (by decide) (by decide) 10 (by decide) (by decide) (by decide))
  · refine ⟨6, ?_, fun h b c hc => ?_, fun e2 h b c hc => ?_⟩
    · unfold pWord wrd
      rw [wkey0, if_neg n0, if_neg (fun q => of_ne 9 (by decide) (by decide) 4 (by decide) (by decide) (by decide) (e.symm.trans ((w0_wine g len a).mpr q))), if_neg (fun q => of_ne 9 (by decide) (by decide) 5 (by decide) (by decide) (by decide) (e.symm.trans ((w0_cold g len a).mpr q))), if_neg (fun q => of_ne 9 (by decide) (by decide) 6 (by decide) (by decide) (by decide) (e.symm.trans ((w0_plug g len a).mpr q))), if_neg (fun q => of_ne 9 (by decide) (by decide) 7 (by decide) (by decide) (by decide) (e.symm.trans ((w0_owes g len a).mpr q))), if_neg (fun q => of_ne 9 (by decide) (by decide) 8 (by decide) (by decide) (by decide) (e.symm.trans ((w0_wall g len a).mpr q))), if_pos ((w0_over g len a).mp e)]
    · rw [e]
      unfold rwP
      rw [if_neg (of_ne 9 (by decide) (by decide) 4 (by decide) (by decide) (by decide)), if_neg (of_ne 9 (by decide) (by decide) 5 (by decide) (by decide) (by decide)), if_neg (of_ne 9 (by decide) (by decide) 6 (by decide) (by decide) (by decide)), if_neg (of_ne 9 (by decide) (by decide) 7 (by decide) (by decide) (by decide)), if_neg (of_ne 9 (by decide) (by decide) 8 (by decide) (by decide) (by decide)), if_pos rfl]
      rfl
    · exact absurd (e.symm.trans e2) (of_ne 9 (by decide) (by decide) 10 (by decide) (by decide) (by decide))
  · refine ⟨7, ?_, fun h b c hc => ?_, fun e2 h b c hc => ?_⟩
    · unfold pWord wrd
      rw [wkey0, if_neg n0, if_neg (fun q => of_ne 10 (by decide) (by decide) 4 (by decide) (by decide) (by decide) (e.symm.trans ((w0_wine g len a).mpr q))), if_neg (fun q => of_ne 10 (by decide) (by decide) 5 (by decide) (by decide) (by decide) (e.symm.trans ((w0_cold g len a).mpr q))), if_neg (fun q => of_ne 10 (by decide) (by decide) 6 (by decide) (by decide) (by decide) (e.symm.trans ((w0_plug g len a).mpr q))), if_neg (fun q => of_ne 10 (by decide) (by decide) 7 (by decide) (by decide) (by decide) (e.symm.trans ((w0_owes g len a).mpr q))), if_neg (fun q => of_ne 10 (by decide) (by decide) 8 (by decide) (by decide) (by decide) (e.symm.trans ((w0_wall g len a).mpr q))), if_neg (fun q => of_ne 10 (by decide) (by decide) 9 (by decide) (by decide) (by decide) (e.symm.trans ((w0_over g len a).mpr q))), if_pos ((w0_clock g len a).mp e)]
    · rw [e]
      unfold rwP
      rw [if_neg (of_ne 10 (by decide) (by decide) 4 (by decide) (by decide) (by decide)), if_neg (of_ne 10 (by decide) (by decide) 5 (by decide) (by decide) (by decide)), if_neg (of_ne 10 (by decide) (by decide) 6 (by decide) (by decide) (by decide)), if_neg (of_ne 10 (by decide) (by decide) 7 (by decide) (by decide) (by decide)), if_neg (of_ne 10 (by decide) (by decide) 8 (by decide) (by decide) (by decide)), if_neg (of_ne 10 (by decide) (by decide) 9 (by decide) (by decide) (by decide))]
      show (if 6 ≤ HS.ck h then _ else _) = _
      rw [if_neg (fun q => hc ⟨e, q⟩)]
      rfl
    · show (if 6 ≤ HS.ck h then _ else _) = _
      rw [if_pos hc]
