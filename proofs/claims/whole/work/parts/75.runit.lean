/-! THE REFERENCE: a law's units -/
theorem nm_kd (g : Nat → Nat) (len a : Nat) : nI 0 = nI (kdN (nmC (pNum g len 0 1000 a))) := by
  cases hp : pNum g len 0 1000 a with
  | error e => rfl
  | ok q =>
    have := (pNum_lt hp).2
    show nI 0 = nI (kdN q.1)
    unfold kdN
    rw [if_pos this]
theorem nm_of {g : Nat → Nat} {len a : Nat} {l : List Nat} (p : List Nat × Nat) (h : nmL l (pNum g len 0 1000 a) = .ok p) : vI (pNum g len 0 1000 a) = nI (ofN (nmC (pNum g len 0 1000 a))) := by
  cases hp : pNum g len 0 1000 a with
  | error e => rfl
  | ok q =>
    have := (pNum_lt hp).2
    show nI q.1 = nI (ofN q.1)
    unfold ofN
    rw [if_pos this]
theorem nm_len {g : Nat → Nat} {len a : Nat} {l : List Nat} (hg : ∀ j, j < 600 → g j < 256) (hlen : len ≤ 600) (hl : l.length ≤ a) (p : List Nat × Nat) (h : nmL l (pNum g len 0 1000 a) = .ok p) : p.1.length + 1 ≤ p.2 := by
  obtain ⟨q, h1, h2⟩ := xbn_is h
  injection h2 with h2
  subst h2
  have := pNum_ge hg hlen h1
  show l.length + 1 ≤ q.2
  omega
theorem nm_st {x y : XS} {g : Nat → Nat} {len o a : Nat} {l : List Nat} (G : LSt x g len o (.ok (l, skip g len a))) (C : CH x y) (hP : PSt y g len (xmp (pNum g len 0 1000 a))) : LSt y g len o (nmL l (pNum g len 0 1000 a)) := by
  have hg : ∀ j, j < 600 → g j < 256 := G.1.gg
  have hlen : len ≤ 600 := G.1.1.2.1
  cases hp : pNum g len 0 1000 a with
  | error e => rw [hp] at hP; exact G.er C hP
  | ok q =>
    rw [hp] at hP
    rw [← pNum_skip] at hp
    have := pNum_ge hg hlen hp
    exact G.mv C hP (by omega)
theorem fc_kd {w : Nat} (h : w < 9) : nI 1 = nI (kdN (1000 + w)) ∧ nI w = nI (ofN (1000 + w)) := by
  unfold kdN ofN
  rw [if_neg (by omega), if_pos (by omega), if_neg (by omega), if_pos (by omega), show 1000 + w - 1000 = w by omega]
  exact ⟨rfl, rfl⟩
set_option maxHeartbeats 8000000 in
set_option maxRecDepth 20000 in
theorem n_unitS {g : Nat → Nat} {len d o a : Nat} {l : List Nat} {F : Nat → LR} {x : XS} (hd : 6 ≤ d) (hF : LPR g len mX10_readSum d (o + 1) F) (ho : o < 6) (hL : LSt x g len o (.ok (l, a))) : MM mX10_readUnit (d + 2) 0 0 [.ref 137] x (fun v y => v = none ∧ LSt y g len o (app (.ok (l, a)) (pU g len (some F))) ∧ LK x y) NoT := by
  refine MM.of (by decide) (Nat.le_of_ble_eq_true rfl) ?_
  have y137 := lay_137
  have S : PSt x g len (.ok a) := hL.1
  have R := S.rp
  have hsk := skip_ge g len a
  have hal : a ≤ len := S.2.2.1
  have hsl := skip_le (g := g) hal
  have h15 : len ≤ 150 := hL.2.2.1
  have hl : l.length ≤ a := (hL.2.2.2 _ rfl).2.1
  have hr9 := hrN_lt (a := a) R
  have N1 := hrN_nx (len := len) (a := a) (c := 40) S.gg (by omega) (by decide) (by decide)
  have D1 := hrN_dig (len := len) (a := a) S.gg (by omega)
  have G : LSt (gdX x (skip g len a)) g len o (.ok (l, (skip g len a))) := hL.mv CH.gd (S.gd hsl) hsk
  have hwd := wd_lt g len a
  have b11 := of_lt 11 (by decide) (by decide)
  have b12 := of_lt 12 (by decide) (by decide)
  have hse := smE_le (g := g) hsl
  refine r_aload_n dX10_readUnit_0 rfl (by rfl) ?_
  refine r_callV (n_fine_t S.2.2.2) mv_X10_fine ml_X10_130 ⟨by omega, by decide⟩ dX10_readUnit_1 (by first | assumption | rfl) rfl rfl rfl (Nat.le_of_ble_eq_true rfl) (fun v9 x9 h9 => ?_)
  obtain ⟨rfl, h9⟩ := h9
  refine PW.xeq h9 ?_
  clear h9 x9
  refine r_if_neB (tgt := 8) dX10_readUnit_4 (by decide) (fun h4 => ?_) (fun h4 => absurd h4 (by decide))
  refine r_aload_n dX10_readUnit_8 rfl (by rfl) ?_
  refine r_callV (n_here R) mv_X10_here ml_X10_113 ⟨by omega, by decide⟩ dX10_readUnit_9 (by first | assumption | rfl) rfl rfl rfl (Nat.le_of_ble_eq_true rfl) (fun v9 x9 h9 => ?_)
  obtain ⟨rfl, h9⟩ := h9
  refine PW.xeq h9 ?_
  clear h9 x9
  refine r_bipush (v := nI 40) dX10_readUnit_12 (by decide) ?_
  refine r_icmp_neN (tgt := 45) dX10_readUnit_14 (by decide) (by omega) (by omega) (fun h14 => ?_) (fun h14 => ?_)
  · refine r_aload_n dX10_readUnit_45 rfl (by rfl) ?_
    refine r_callV (n_here2 R) mv_X10_here ml_X10_113 ⟨by omega, by decide⟩ dX10_readUnit_46 (by first | assumption | rfl) rfl rfl rfl (Nat.le_of_ble_eq_true rfl) (fun v9 x9 h9 => ?_)
    obtain ⟨rfl, h9⟩ := h9
    refine PW.xeq h9 ?_
    clear h9 x9
    refine r_callS (n_isDigit hr9) ms_X10_isDigit ml_X10_134 ⟨by omega, by decide⟩ dX10_readUnit_49 rfl (Nat.le_of_ble_eq_true rfl) (fun v9 x9 h9 => ?_)
    obtain ⟨rfl, h9⟩ := h9
    refine PW.xeq h9 ?_
    clear h9 x9
    refine r_if_eqB (tgt := 71) dX10_readUnit_52 (by decide) (fun h52 => ?_) (fun h52 => ?_)
    · refine r_aload_n dX10_readUnit_71 rfl (by rfl) ?_
      refine r_callV (n_word2 R) mv_X10_word ml_X10_219 ⟨by omega, by decide⟩ dX10_readUnit_72 (by first | assumption | rfl) rfl rfl rfl (Nat.le_of_ble_eq_true rfl) (fun v9 x9 h9 => ?_)
      obtain ⟨rfl, h9⟩ := h9
      refine PW.xeq h9 ?_
      clear h9 x9
      refine r_ldcwS (i := 11) rfl dX10_readUnit_75 ?_
      refine r_callS (n_of (i := 11) (by decide) (by decide)) ms_X10_of ml_X10_187 ⟨by omega, by decide⟩ dX10_readUnit_78 rfl (Nat.le_of_ble_eq_true rfl) (fun v9 x9 h9 => ?_)
      obtain ⟨rfl, h9⟩ := h9
      refine PW.xeq h9 ?_
      clear h9 x9
      refine r_icmp_neN (tgt := 94) dX10_readUnit_81 (by decide) (by omega) (by omega) (fun h81 => ?_) (fun h81 => ?_)
      · refine r_aload_n dX10_readUnit_94 rfl (by rfl) ?_
        refine r_callV (n_word2 R) mv_X10_word ml_X10_219 ⟨by omega, by decide⟩ dX10_readUnit_95 (by first | assumption | rfl) rfl rfl rfl (Nat.le_of_ble_eq_true rfl) (fun v9 x9 h9 => ?_)
        obtain ⟨rfl, h9⟩ := h9
        refine PW.xeq h9 ?_
        clear h9 x9
        refine r_ldcwS (i := 12) rfl dX10_readUnit_98 ?_
        refine r_callS (n_of (i := 12) (by decide) (by decide)) ms_X10_of ml_X10_187 ⟨by omega, by decide⟩ dX10_readUnit_101 rfl (Nat.le_of_ble_eq_true rfl) (fun v9 x9 h9 => ?_)
        obtain ⟨rfl, h9⟩ := h9
        refine PW.xeq h9 ?_
        clear h9 x9
        refine r_icmp_neN (tgt := 117) dX10_readUnit_104 (by decide) (by omega) (by omega) (fun h104 => ?_) (fun h104 => ?_)
        · refine r_aload_n dX10_readUnit_117 rfl (by rfl) ?_
          refine r_callV (n_fact R) mv_X10_factHere ml_X10_279 ⟨by omega, by decide⟩ dX10_readUnit_118 (by first | assumption | rfl) rfl rfl rfl (Nat.le_of_ble_eq_true rfl) (fun v9 x9 h9 => ?_)
          obtain ⟨rfl, h9⟩ := h9
          refine PW.xeq h9 ?_
          clear h9 x9
          refine r_istore_n dX10_readUnit_121 rfl (by decide) ?_
          refine r_iload_n dX10_readUnit_122 rfl (by rfl) ?_
          refine r_iconst (v := -1) dX10_readUnit_123 (by decide) ?_
          refine r_icmp_ne (tgt := 136) dX10_readUnit_124 (by decide) (fun h124 => ?_) (fun h124 => ?_)
          · refine r_aload_n dX10_readUnit_136 rfl (by rfl) ?_
            first
              | refine r_callV (t_fine P9) mv_X10_fine ml_X10_130 ⟨by omega, by decide⟩ dX10_readUnit_137 (by first | assumption | rfl) rfl rfl rfl (Nat.le_of_ble_eq_true rfl) (fun v9 x9 h9 => ?_)
              | refine r_callV (t_fine (r := .ok (skip g len a)) G.1) mv_X10_fine ml_X10_130 ⟨by omega, by decide⟩ dX10_readUnit_137 (by first | assumption | rfl) rfl rfl rfl (Nat.le_of_ble_eq_true rfl) (fun v9 x9 h9 => ?_)
            obtain ⟨rfl, h9⟩ := h9
            refine PW.xeq h9 ?_
            clear h9 x9
            refine r_if_neB (tgt := 144) dX10_readUnit_140 (by decide) (fun h140 => ?_) (fun h140 => ?_)
            · first
                | (exact absurd (show false = true from h140) (by decide))
                | (obtain ⟨w, hw, e2, e3⟩ := fc_t h124
                   have hw1 := (pWord1_ge (show pWord g len 1 a = .ok (w, smE g len (skip g len a)) by unfold pWord; rw [e2])).1
                   have hw1 : a + 1 ≤ smE g len (skip g len a) := hw1
                   refine r_aload_n dX10_readUnit_144 rfl (by rfl) ?_
                   refine r_callV (n_pass (g := g) (len := len) (a := (skip g len a)) (PSt.rp (a := (skip g len a)) G.1)) mv_X10_pass ml_X10_225 ⟨by omega, by decide⟩ dX10_readUnit_145 (by first | assumption | rfl) rfl rfl rfl (Nat.le_of_ble_eq_true rfl) (fun v9 y10 h9 => ?_)
                   obtain ⟨rfl, rfl⟩ := h9
                   have L8 : LSt (gdX (gdX x (skip g len a)) (smE g len (skip g len a))) g len o (.ok (l, smE g len (skip g len a))) := G.mv CH.gd (PSt.gd (a := (skip g len a)) G.1 hse) (smE_ge g len (skip g len a))
                   refine r_aload_n dX10_readUnit_148 rfl (by rfl) ?_
                   refine r_iconst (v := nI 1) dX10_readUnit_149 (by decide) ?_
                   refine r_iload_n dX10_readUnit_150 rfl (by rfl) ?_
                   refine PW.topi e3 ?_
                   refine r_callV (t_emit (c := 1000 + w) L8 (fun p9 e9 => by injection e9 with e9; subst e9; show l.length + 1 ≤ smE g len (skip g len a); omega) (fc_kd hw).1 (fun _ _ => (fc_kd hw).2)) mv_X10_emit ml_X10_247 ⟨by omega, by decide⟩ dX10_readUnit_151 (by first | assumption | rfl) rfl rfl rfl (Nat.le_of_ble_eq_true rfl) (fun v9 y11 h9 => ?_)
                   obtain ⟨rfl, L9, K9⟩ := h9
                   refine r_ret rfl dX10_readUnit_154 ?_
                   refine ⟨rfl, ?_, CH.gd.lk.trans (CH.gd.lk.trans K9)⟩
                   rw [u_nam (fun q => h14 (N1.mp q)) (D1.trans h52), u_fac e2 hw]
                   exact L9)
            · refine r_ret rfl dX10_readUnit_143 ?_
              first
                | (exact absurd (show true = false from h140) (by decide))
                | (refine ⟨rfl, ?_, CH.gd.lk.trans C9.lk⟩
                   rw [u_nam (fun q => h14 (N1.mp q)) (D1.trans h52), u_non (fc_f h81 h104 h124)]
                   exact G.er C9 P9)
          · refine r_aload_n dX10_readUnit_127 rfl (by rfl) ?_
            refine r_iconst (v := nI 1) dX10_readUnit_128 (by decide) ?_
            refine r_aload_n dX10_readUnit_129 rfl (by rfl) ?_
            refine gf_X10_107 rfl dX10_readUnit_130 (by first | assumption | rfl) (by rfl) ?_
            refine PW.topi (show _ = nI (skip g len a) from xu_s) ?_
            refine r_callV (t_wrong (r := .ok (skip g len a)) (k := 1) (p := (skip g len a)) G.1 rfl (by omega)) mv_X10_wrong ml_X10_137 ⟨by omega, by decide⟩ dX10_readUnit_133 (by first | assumption | rfl) rfl rfl rfl (Nat.le_of_ble_eq_true rfl) (fun v9 y9 h9 => ?_)
            obtain ⟨rfl, P9, C9⟩ := h9
            refine r_aload_n dX10_readUnit_136 rfl (by rfl) ?_
            first
              | refine r_callV (t_fine P9) mv_X10_fine ml_X10_130 ⟨by omega, by decide⟩ dX10_readUnit_137 (by first | assumption | rfl) rfl rfl rfl (Nat.le_of_ble_eq_true rfl) (fun v9 x9 h9 => ?_)
              | refine r_callV (t_fine (r := .ok (skip g len a)) G.1) mv_X10_fine ml_X10_130 ⟨by omega, by decide⟩ dX10_readUnit_137 (by first | assumption | rfl) rfl rfl rfl (Nat.le_of_ble_eq_true rfl) (fun v9 x9 h9 => ?_)
            obtain ⟨rfl, h9⟩ := h9
            refine PW.xeq h9 ?_
            clear h9 x9
            refine r_if_neB (tgt := 144) dX10_readUnit_140 (by decide) (fun h140 => ?_) (fun h140 => ?_)
            · first
                | (exact absurd (show false = true from h140) (by decide))
                | (obtain ⟨w, hw, e2, e3⟩ := fc_t h124
                   have hw1 := (pWord1_ge (show pWord g len 1 a = .ok (w, smE g len (skip g len a)) by unfold pWord; rw [e2])).1
                   have hw1 : a + 1 ≤ smE g len (skip g len a) := hw1
                   refine r_aload_n dX10_readUnit_144 rfl (by rfl) ?_
                   refine r_callV (n_pass (g := g) (len := len) (a := (skip g len a)) (PSt.rp (a := (skip g len a)) G.1)) mv_X10_pass ml_X10_225 ⟨by omega, by decide⟩ dX10_readUnit_145 (by first | assumption | rfl) rfl rfl rfl (Nat.le_of_ble_eq_true rfl) (fun v9 y10 h9 => ?_)
                   obtain ⟨rfl, rfl⟩ := h9
                   have L8 : LSt (gdX (gdX x (skip g len a)) (smE g len (skip g len a))) g len o (.ok (l, smE g len (skip g len a))) := G.mv CH.gd (PSt.gd (a := (skip g len a)) G.1 hse) (smE_ge g len (skip g len a))
                   refine r_aload_n dX10_readUnit_148 rfl (by rfl) ?_
                   refine r_iconst (v := nI 1) dX10_readUnit_149 (by decide) ?_
                   refine r_iload_n dX10_readUnit_150 rfl (by rfl) ?_
                   refine PW.topi e3 ?_
                   refine r_callV (t_emit (c := 1000 + w) L8 (fun p9 e9 => by injection e9 with e9; subst e9; show l.length + 1 ≤ smE g len (skip g len a); omega) (fc_kd hw).1 (fun _ _ => (fc_kd hw).2)) mv_X10_emit ml_X10_247 ⟨by omega, by decide⟩ dX10_readUnit_151 (by first | assumption | rfl) rfl rfl rfl (Nat.le_of_ble_eq_true rfl) (fun v9 y11 h9 => ?_)
                   obtain ⟨rfl, L9, K9⟩ := h9
                   refine r_ret rfl dX10_readUnit_154 ?_
                   refine ⟨rfl, ?_, CH.gd.lk.trans (CH.gd.lk.trans K9)⟩
                   rw [u_nam (fun q => h14 (N1.mp q)) (D1.trans h52), u_fac e2 hw]
                   exact L9)
            · refine r_ret rfl dX10_readUnit_143 ?_
              first
                | (exact absurd (show true = false from h140) (by decide))
                | (refine ⟨rfl, ?_, CH.gd.lk.trans C9.lk⟩
                   rw [u_nam (fun q => h14 (N1.mp q)) (D1.trans h52), u_non (fc_f h81 h104 h124)]
                   exact G.er C9 P9)
        · obtain ⟨hw9, hs9⟩ := is_most h104
          refine r_aload_n dX10_readUnit_107 rfl (by rfl) ?_
          refine r_iconst (v := nI 4) dX10_readUnit_108 (by decide) ?_
          refine r_bipush (v := nI 7) dX10_readUnit_109 (by decide) ?_
          refine r_callV (n_two (a := (skip g len a)) (b := 4) (c := 2005) (by omega) hF G (by omega) ho rfl rfl) mv_X10_readTwo ml_X10_274 ⟨by omega, by decide⟩ dX10_readUnit_111 (by first | assumption | rfl) rfl rfl rfl (Nat.le_of_ble_eq_true rfl) (fun v9 y7 h9 => ?_)
          obtain ⟨rfl, L7, K7⟩ := h9
          refine r_goto (tgt := 154) dX10_readUnit_114 (by decide) ?_
          refine r_ret rfl dX10_readUnit_154 ?_
          first
            | (refine ⟨rfl, ?_, ((CH.gd.lk.trans (CH.gd.lk.trans LK.op)).trans (K2.trans K3)).trans LK.op⟩
               rw [u_par (N1.mpr h14)]
               exact L3.op)
            | (refine ⟨rfl, ?_, CH.gd.lk.trans (C2.lk.trans K6)⟩
               rw [u_num (fun q => h14 (N1.mp q)) (D1.trans h52)]
               exact L6)
            | (refine ⟨rfl, ?_, CH.gd.lk.trans K7⟩
               rw [u_nam (fun q => h14 (N1.mp q)) (D1.trans h52), u_two hw9 (by decide), hs9]
               exact L7)
      · obtain ⟨hw9, hs9⟩ := is_least h81
        refine r_aload_n dX10_readUnit_84 rfl (by rfl) ?_
        refine r_iconst (v := nI 5) dX10_readUnit_85 (by decide) ?_
        refine r_bipush (v := nI 6) dX10_readUnit_86 (by decide) ?_
        refine r_callV (n_two (a := (skip g len a)) (b := 5) (c := 2004) (by omega) hF G (by omega) ho rfl rfl) mv_X10_readTwo ml_X10_274 ⟨by omega, by decide⟩ dX10_readUnit_88 (by first | assumption | rfl) rfl rfl rfl (Nat.le_of_ble_eq_true rfl) (fun v9 y7 h9 => ?_)
        obtain ⟨rfl, L7, K7⟩ := h9
        refine r_goto (tgt := 154) dX10_readUnit_91 (by decide) ?_
        refine r_ret rfl dX10_readUnit_154 ?_
        first
          | (refine ⟨rfl, ?_, ((CH.gd.lk.trans (CH.gd.lk.trans LK.op)).trans (K2.trans K3)).trans LK.op⟩
             rw [u_par (N1.mpr h14)]
             exact L3.op)
          | (refine ⟨rfl, ?_, CH.gd.lk.trans (C2.lk.trans K6)⟩
             rw [u_num (fun q => h14 (N1.mp q)) (D1.trans h52)]
             exact L6)
          | (refine ⟨rfl, ?_, CH.gd.lk.trans K7⟩
             rw [u_nam (fun q => h14 (N1.mp q)) (D1.trans h52), u_two hw9 (by decide), hs9]
             exact L7)
    · refine r_aload_n dX10_readUnit_55 rfl (by rfl) ?_
      refine r_iconst (v := nI 0) dX10_readUnit_56 (by decide) ?_
      refine r_aload_n dX10_readUnit_57 rfl (by rfl) ?_
      refine r_iconst (v := nI 0) dX10_readUnit_58 (by decide) ?_
      refine r_sipush (v := nI 999) dX10_readUnit_59 (by decide) ?_
      refine r_callV (t_num (r := .ok (skip g len a)) (lo := 0) (n := 1000) (hv := nI 999) G.1 (by decide) (by decide) (fun v hv => hv_C (by decide) hv)) mv_X10_readNumber ml_X10_181 ⟨by omega, by decide⟩ dX10_readUnit_62 (by first | assumption | rfl) rfl rfl rfl (Nat.le_of_ble_eq_true rfl) (fun v9 y5 h9 => ?_)
      obtain ⟨rfl, P2, C2⟩ := h9
      rw [xbn_ok, pNum_skip] at P2
      have L5 := nm_st G C2 P2
      refine PW.topi (show _ = vI (pNum g len 0 1000 a) from (by rw [xbn_ok, pNum_skip])) ?_
      refine r_callV (t_emit (c := nmC (pNum g len 0 1000 a)) L5 (nm_len S.gg (by omega) hl) (nm_kd g len a) nm_of) mv_X10_emit ml_X10_247 ⟨by omega, by decide⟩ dX10_readUnit_65 (by first | assumption | rfl) rfl rfl rfl (Nat.le_of_ble_eq_true rfl) (fun v9 y6 h9 => ?_)
      obtain ⟨rfl, L6, K6⟩ := h9
      refine r_goto (tgt := 154) dX10_readUnit_68 (by decide) ?_
      refine r_ret rfl dX10_readUnit_154 ?_
      first
        | (refine ⟨rfl, ?_, ((CH.gd.lk.trans (CH.gd.lk.trans LK.op)).trans (K2.trans K3)).trans LK.op⟩
           rw [u_par (N1.mpr h14)]
           exact L3.op)
        | (refine ⟨rfl, ?_, CH.gd.lk.trans (C2.lk.trans K6)⟩
           rw [u_num (fun q => h14 (N1.mp q)) (D1.trans h52)]
           exact L6)
        | (refine ⟨rfl, ?_, CH.gd.lk.trans K7⟩
           rw [u_nam (fun q => h14 (N1.mp q)) (D1.trans h52), u_two hw9 (by decide), hs9]
           exact L7)
  · have hlt : (skip g len a) + 1 ≤ len := by
      by_cases q : (skip g len a) < len
      · omega
      · have e0 : hrN g len a = 0 := by unfold hrN; rw [if_neg q]
        omega
    refine r_aload_n dX10_readUnit_17 rfl (by rfl) ?_
    refine r_iconst (v := nI 1) dX10_readUnit_18 (by decide) ?_
    refine r_callV (n_open (x := gdX x (skip g len a)) (a := (skip g len a)) (b := 1) (o := o) G.1.2.2.2 G.1.2.1 G.2.1 ho) mv_X10_opensOne ml_X10_253 ⟨by omega, by decide⟩ dX10_readUnit_19 (by first | assumption | rfl) rfl rfl rfl (Nat.le_of_ble_eq_true rfl) (fun v9 y0 h9 => ?_)
    obtain ⟨rfl, rfl⟩ := h9
    have L1 : LSt (xu (gdX (gdX x (skip g len a)) ((skip g len a) + 1)) 137 7 (nI (o + 1))) g len (o + 1) (.ok (l, (skip g len a) + 1)) := (G.mv CH.gd (PSt.gd (a := (skip g len a)) G.1 hlt) (by omega)).op
    refine r_aload_n dX10_readUnit_22 rfl (by rfl) ?_
    refine r_callV (hF _ _ L1) mv_X10_readSum ml_X10_256 ⟨by omega, by decide⟩ dX10_readUnit_23 (by first | assumption | rfl) rfl rfl rfl (Nat.le_of_ble_eq_true rfl) (fun v9 y1 h9 => ?_)
    obtain ⟨rfl, L2, K2⟩ := h9
    refine r_aload_n dX10_readUnit_26 rfl (by rfl) ?_
    refine r_bipush (v := nI 41) dX10_readUnit_27 (by decide) ?_
    refine r_callV (t_signL L2 (by decide) (by decide)) mv_X10_sign ml_X10_234 ⟨by omega, by decide⟩ dX10_readUnit_29 (by first | assumption | rfl) rfl rfl rfl (Nat.le_of_ble_eq_true rfl) (fun v9 y2 h9 => ?_)
    obtain ⟨rfl, L3, K3⟩ := h9
    refine r_aload_n dX10_readUnit_32 rfl (by rfl) ?_
    refine r_dup dX10_readUnit_33 rfl ?_
    refine gf_X10_141 rfl dX10_readUnit_34 (by first | assumption | rfl) (by rfl) ?_
    refine PW.topi L3.2.1 ?_
    refine r_iconst (v := nI 1) dX10_readUnit_37 (by decide) ?_
    refine r_isubN dX10_readUnit_38 (by omega) ?_
    refine pf_X10_141 rfl dX10_readUnit_39 (by first | assumption | rfl) (by rfl) ?_
    refine r_goto (tgt := 154) dX10_readUnit_42 (by decide) ?_
    refine r_ret rfl dX10_readUnit_154 ?_
    first
      | (refine ⟨rfl, ?_, ((CH.gd.lk.trans (CH.gd.lk.trans LK.op)).trans (K2.trans K3)).trans LK.op⟩
         rw [u_par (N1.mpr h14)]
         exact L3.op)
      | (refine ⟨rfl, ?_, CH.gd.lk.trans (C2.lk.trans K6)⟩
         rw [u_num (fun q => h14 (N1.mp q)) (D1.trans h52)]
         exact L6)
      | (refine ⟨rfl, ?_, CH.gd.lk.trans K7⟩
         rw [u_nam (fun q => h14 (N1.mp q)) (D1.trans h52), u_two hw9 (by decide), hs9]
         exact L7)
set_option maxHeartbeats 8000000 in
set_option maxRecDepth 20000 in
theorem n_unit0 {g : Nat → Nat} {len d a : Nat} {l : List Nat} {x : XS} (hd : 6 ≤ d) (hL : LSt x g len 6 (.ok (l, a))) : MM mX10_readUnit (d + 2) 0 0 [.ref 137] x (fun v y => v = none ∧ LSt y g len 6 (app (.ok (l, a)) (pU g len none)) ∧ LK x y) NoT := by
  refine MM.of (by decide) (Nat.le_of_ble_eq_true rfl) ?_
  have y137 := lay_137
  have S : PSt x g len (.ok a) := hL.1
  have R := S.rp
  have hsk := skip_ge g len a
  have hal : a ≤ len := S.2.2.1
  have hsl := skip_le (g := g) hal
  have h15 : len ≤ 150 := hL.2.2.1
  have hl : l.length ≤ a := (hL.2.2.2 _ rfl).2.1
  have hr9 := hrN_lt (a := a) R
  have N1 := hrN_nx (len := len) (a := a) (c := 40) S.gg (by omega) (by decide) (by decide)
  have D1 := hrN_dig (len := len) (a := a) S.gg (by omega)
  have G : LSt (gdX x (skip g len a)) g len 6 (.ok (l, (skip g len a))) := hL.mv CH.gd (S.gd hsl) hsk
  have hwd := wd_lt g len a
  have b11 := of_lt 11 (by decide) (by decide)
  have b12 := of_lt 12 (by decide) (by decide)
  have hse := smE_le (g := g) hsl
  refine r_aload_n dX10_readUnit_0 rfl (by rfl) ?_
  refine r_callV (n_fine_t S.2.2.2) mv_X10_fine ml_X10_130 ⟨by omega, by decide⟩ dX10_readUnit_1 (by first | assumption | rfl) rfl rfl rfl (Nat.le_of_ble_eq_true rfl) (fun v9 x9 h9 => ?_)
  obtain ⟨rfl, h9⟩ := h9
  refine PW.xeq h9 ?_
  clear h9 x9
  refine r_if_neB (tgt := 8) dX10_readUnit_4 (by decide) (fun h4 => ?_) (fun h4 => absurd h4 (by decide))
  refine r_aload_n dX10_readUnit_8 rfl (by rfl) ?_
  refine r_callV (n_here R) mv_X10_here ml_X10_113 ⟨by omega, by decide⟩ dX10_readUnit_9 (by first | assumption | rfl) rfl rfl rfl (Nat.le_of_ble_eq_true rfl) (fun v9 x9 h9 => ?_)
  obtain ⟨rfl, h9⟩ := h9
  refine PW.xeq h9 ?_
  clear h9 x9
  refine r_bipush (v := nI 40) dX10_readUnit_12 (by decide) ?_
  refine r_icmp_neN (tgt := 45) dX10_readUnit_14 (by decide) (by omega) (by omega) (fun h14 => ?_) (fun h14 => ?_)
  · refine r_aload_n dX10_readUnit_45 rfl (by rfl) ?_
    refine r_callV (n_here2 R) mv_X10_here ml_X10_113 ⟨by omega, by decide⟩ dX10_readUnit_46 (by first | assumption | rfl) rfl rfl rfl (Nat.le_of_ble_eq_true rfl) (fun v9 x9 h9 => ?_)
    obtain ⟨rfl, h9⟩ := h9
    refine PW.xeq h9 ?_
    clear h9 x9
    refine r_callS (n_isDigit hr9) ms_X10_isDigit ml_X10_134 ⟨by omega, by decide⟩ dX10_readUnit_49 rfl (Nat.le_of_ble_eq_true rfl) (fun v9 x9 h9 => ?_)
    obtain ⟨rfl, h9⟩ := h9
    refine PW.xeq h9 ?_
    clear h9 x9
    refine r_if_eqB (tgt := 71) dX10_readUnit_52 (by decide) (fun h52 => ?_) (fun h52 => ?_)
    · refine r_aload_n dX10_readUnit_71 rfl (by rfl) ?_
      refine r_callV (n_word2 R) mv_X10_word ml_X10_219 ⟨by omega, by decide⟩ dX10_readUnit_72 (by first | assumption | rfl) rfl rfl rfl (Nat.le_of_ble_eq_true rfl) (fun v9 x9 h9 => ?_)
      obtain ⟨rfl, h9⟩ := h9
      refine PW.xeq h9 ?_
      clear h9 x9
      refine r_ldcwS (i := 11) rfl dX10_readUnit_75 ?_
      refine r_callS (n_of (i := 11) (by decide) (by decide)) ms_X10_of ml_X10_187 ⟨by omega, by decide⟩ dX10_readUnit_78 rfl (Nat.le_of_ble_eq_true rfl) (fun v9 x9 h9 => ?_)
      obtain ⟨rfl, h9⟩ := h9
      refine PW.xeq h9 ?_
      clear h9 x9
      refine r_icmp_neN (tgt := 94) dX10_readUnit_81 (by decide) (by omega) (by omega) (fun h81 => ?_) (fun h81 => ?_)
      · refine r_aload_n dX10_readUnit_94 rfl (by rfl) ?_
        refine r_callV (n_word2 R) mv_X10_word ml_X10_219 ⟨by omega, by decide⟩ dX10_readUnit_95 (by first | assumption | rfl) rfl rfl rfl (Nat.le_of_ble_eq_true rfl) (fun v9 x9 h9 => ?_)
        obtain ⟨rfl, h9⟩ := h9
        refine PW.xeq h9 ?_
        clear h9 x9
        refine r_ldcwS (i := 12) rfl dX10_readUnit_98 ?_
        refine r_callS (n_of (i := 12) (by decide) (by decide)) ms_X10_of ml_X10_187 ⟨by omega, by decide⟩ dX10_readUnit_101 rfl (Nat.le_of_ble_eq_true rfl) (fun v9 x9 h9 => ?_)
        obtain ⟨rfl, h9⟩ := h9
        refine PW.xeq h9 ?_
        clear h9 x9
        refine r_icmp_neN (tgt := 117) dX10_readUnit_104 (by decide) (by omega) (by omega) (fun h104 => ?_) (fun h104 => ?_)
        · refine r_aload_n dX10_readUnit_117 rfl (by rfl) ?_
          refine r_callV (n_fact R) mv_X10_factHere ml_X10_279 ⟨by omega, by decide⟩ dX10_readUnit_118 (by first | assumption | rfl) rfl rfl rfl (Nat.le_of_ble_eq_true rfl) (fun v9 x9 h9 => ?_)
          obtain ⟨rfl, h9⟩ := h9
          refine PW.xeq h9 ?_
          clear h9 x9
          refine r_istore_n dX10_readUnit_121 rfl (by decide) ?_
          refine r_iload_n dX10_readUnit_122 rfl (by rfl) ?_
          refine r_iconst (v := -1) dX10_readUnit_123 (by decide) ?_
          refine r_icmp_ne (tgt := 136) dX10_readUnit_124 (by decide) (fun h124 => ?_) (fun h124 => ?_)
          · refine r_aload_n dX10_readUnit_136 rfl (by rfl) ?_
            first
              | refine r_callV (t_fine P9) mv_X10_fine ml_X10_130 ⟨by omega, by decide⟩ dX10_readUnit_137 (by first | assumption | rfl) rfl rfl rfl (Nat.le_of_ble_eq_true rfl) (fun v9 x9 h9 => ?_)
              | refine r_callV (t_fine (r := .ok (skip g len a)) G.1) mv_X10_fine ml_X10_130 ⟨by omega, by decide⟩ dX10_readUnit_137 (by first | assumption | rfl) rfl rfl rfl (Nat.le_of_ble_eq_true rfl) (fun v9 x9 h9 => ?_)
            obtain ⟨rfl, h9⟩ := h9
            refine PW.xeq h9 ?_
            clear h9 x9
            refine r_if_neB (tgt := 144) dX10_readUnit_140 (by decide) (fun h140 => ?_) (fun h140 => ?_)
            · first
                | (exact absurd (show false = true from h140) (by decide))
                | (obtain ⟨w, hw, e2, e3⟩ := fc_t h124
                   have hw1 := (pWord1_ge (show pWord g len 1 a = .ok (w, smE g len (skip g len a)) by unfold pWord; rw [e2])).1
                   have hw1 : a + 1 ≤ smE g len (skip g len a) := hw1
                   refine r_aload_n dX10_readUnit_144 rfl (by rfl) ?_
                   refine r_callV (n_pass (g := g) (len := len) (a := (skip g len a)) (PSt.rp (a := (skip g len a)) G.1)) mv_X10_pass ml_X10_225 ⟨by omega, by decide⟩ dX10_readUnit_145 (by first | assumption | rfl) rfl rfl rfl (Nat.le_of_ble_eq_true rfl) (fun v9 y10 h9 => ?_)
                   obtain ⟨rfl, rfl⟩ := h9
                   have L8 : LSt (gdX (gdX x (skip g len a)) (smE g len (skip g len a))) g len 6 (.ok (l, smE g len (skip g len a))) := G.mv CH.gd (PSt.gd (a := (skip g len a)) G.1 hse) (smE_ge g len (skip g len a))
                   refine r_aload_n dX10_readUnit_148 rfl (by rfl) ?_
                   refine r_iconst (v := nI 1) dX10_readUnit_149 (by decide) ?_
                   refine r_iload_n dX10_readUnit_150 rfl (by rfl) ?_
                   refine PW.topi e3 ?_
                   refine r_callV (t_emit (c := 1000 + w) L8 (fun p9 e9 => by injection e9 with e9; subst e9; show l.length + 1 ≤ smE g len (skip g len a); omega) (fc_kd hw).1 (fun _ _ => (fc_kd hw).2)) mv_X10_emit ml_X10_247 ⟨by omega, by decide⟩ dX10_readUnit_151 (by first | assumption | rfl) rfl rfl rfl (Nat.le_of_ble_eq_true rfl) (fun v9 y11 h9 => ?_)
                   obtain ⟨rfl, L9, K9⟩ := h9
                   refine r_ret rfl dX10_readUnit_154 ?_
                   refine ⟨rfl, ?_, CH.gd.lk.trans (CH.gd.lk.trans K9)⟩
                   rw [u_nam (fun q => h14 (N1.mp q)) (D1.trans h52), u_fac e2 hw]
                   exact L9)
            · refine r_ret rfl dX10_readUnit_143 ?_
              first
                | (exact absurd (show true = false from h140) (by decide))
                | (refine ⟨rfl, ?_, CH.gd.lk.trans C9.lk⟩
                   rw [u_nam (fun q => h14 (N1.mp q)) (D1.trans h52), u_non (fc_f h81 h104 h124)]
                   exact G.er C9 P9)
          · refine r_aload_n dX10_readUnit_127 rfl (by rfl) ?_
            refine r_iconst (v := nI 1) dX10_readUnit_128 (by decide) ?_
            refine r_aload_n dX10_readUnit_129 rfl (by rfl) ?_
            refine gf_X10_107 rfl dX10_readUnit_130 (by first | assumption | rfl) (by rfl) ?_
            refine PW.topi (show _ = nI (skip g len a) from xu_s) ?_
            refine r_callV (t_wrong (r := .ok (skip g len a)) (k := 1) (p := (skip g len a)) G.1 rfl (by omega)) mv_X10_wrong ml_X10_137 ⟨by omega, by decide⟩ dX10_readUnit_133 (by first | assumption | rfl) rfl rfl rfl (Nat.le_of_ble_eq_true rfl) (fun v9 y9 h9 => ?_)
            obtain ⟨rfl, P9, C9⟩ := h9
            refine r_aload_n dX10_readUnit_136 rfl (by rfl) ?_
            first
              | refine r_callV (t_fine P9) mv_X10_fine ml_X10_130 ⟨by omega, by decide⟩ dX10_readUnit_137 (by first | assumption | rfl) rfl rfl rfl (Nat.le_of_ble_eq_true rfl) (fun v9 x9 h9 => ?_)
              | refine r_callV (t_fine (r := .ok (skip g len a)) G.1) mv_X10_fine ml_X10_130 ⟨by omega, by decide⟩ dX10_readUnit_137 (by first | assumption | rfl) rfl rfl rfl (Nat.le_of_ble_eq_true rfl) (fun v9 x9 h9 => ?_)
            obtain ⟨rfl, h9⟩ := h9
            refine PW.xeq h9 ?_
            clear h9 x9
            refine r_if_neB (tgt := 144) dX10_readUnit_140 (by decide) (fun h140 => ?_) (fun h140 => ?_)
            · first
                | (exact absurd (show false = true from h140) (by decide))
                | (obtain ⟨w, hw, e2, e3⟩ := fc_t h124
                   have hw1 := (pWord1_ge (show pWord g len 1 a = .ok (w, smE g len (skip g len a)) by unfold pWord; rw [e2])).1
                   have hw1 : a + 1 ≤ smE g len (skip g len a) := hw1
                   refine r_aload_n dX10_readUnit_144 rfl (by rfl) ?_
                   refine r_callV (n_pass (g := g) (len := len) (a := (skip g len a)) (PSt.rp (a := (skip g len a)) G.1)) mv_X10_pass ml_X10_225 ⟨by omega, by decide⟩ dX10_readUnit_145 (by first | assumption | rfl) rfl rfl rfl (Nat.le_of_ble_eq_true rfl) (fun v9 y10 h9 => ?_)
                   obtain ⟨rfl, rfl⟩ := h9
                   have L8 : LSt (gdX (gdX x (skip g len a)) (smE g len (skip g len a))) g len 6 (.ok (l, smE g len (skip g len a))) := G.mv CH.gd (PSt.gd (a := (skip g len a)) G.1 hse) (smE_ge g len (skip g len a))
                   refine r_aload_n dX10_readUnit_148 rfl (by rfl) ?_
                   refine r_iconst (v := nI 1) dX10_readUnit_149 (by decide) ?_
                   refine r_iload_n dX10_readUnit_150 rfl (by rfl) ?_
                   refine PW.topi e3 ?_
                   refine r_callV (t_emit (c := 1000 + w) L8 (fun p9 e9 => by injection e9 with e9; subst e9; show l.length + 1 ≤ smE g len (skip g len a); omega) (fc_kd hw).1 (fun _ _ => (fc_kd hw).2)) mv_X10_emit ml_X10_247 ⟨by omega, by decide⟩ dX10_readUnit_151 (by first | assumption | rfl) rfl rfl rfl (Nat.le_of_ble_eq_true rfl) (fun v9 y11 h9 => ?_)
                   obtain ⟨rfl, L9, K9⟩ := h9
                   refine r_ret rfl dX10_readUnit_154 ?_
                   refine ⟨rfl, ?_, CH.gd.lk.trans (CH.gd.lk.trans K9)⟩
                   rw [u_nam (fun q => h14 (N1.mp q)) (D1.trans h52), u_fac e2 hw]
                   exact L9)
            · refine r_ret rfl dX10_readUnit_143 ?_
              first
                | (exact absurd (show true = false from h140) (by decide))
                | (refine ⟨rfl, ?_, CH.gd.lk.trans C9.lk⟩
                   rw [u_nam (fun q => h14 (N1.mp q)) (D1.trans h52), u_non (fc_f h81 h104 h124)]
                   exact G.er C9 P9)
        · obtain ⟨hw9, hs9⟩ := is_most h104
          refine r_aload_n dX10_readUnit_107 rfl (by rfl) ?_
          refine r_iconst (v := nI 4) dX10_readUnit_108 (by decide) ?_
          refine r_bipush (v := nI 7) dX10_readUnit_109 (by decide) ?_
          refine r_callV (n_two6 (a := (skip g len a)) (b := 4) (d := d) (by omega) G) mv_X10_readTwo ml_X10_274 ⟨by omega, by decide⟩ dX10_readUnit_111 (by first | assumption | rfl) rfl rfl rfl (Nat.le_of_ble_eq_true rfl) (fun v9 y7 h9 => ?_)
          obtain ⟨rfl, L7, K7⟩ := h9
          refine r_goto (tgt := 154) dX10_readUnit_114 (by decide) ?_
          refine r_ret rfl dX10_readUnit_154 ?_
          first
            | (refine ⟨rfl, ?_, CH.gd.lk.trans (CH.wr.lk.trans (LK.op.trans LK.op))⟩
               rw [u_par0 (N1.mpr h14)]
               exact (G.er CH.wr (PSt.ch (PSt.wr (b := (skip g len a)) (k := 3) (p := (skip g len a)) S hsl (by omega)) (fun _ _ => rfl) rfl)).op.op)
            | (refine ⟨rfl, ?_, CH.gd.lk.trans (C2.lk.trans K6)⟩
               rw [u_num (fun q => h14 (N1.mp q)) (D1.trans h52)]
               exact L6)
            | (refine ⟨rfl, ?_, CH.gd.lk.trans K7⟩
               rw [u_nam (fun q => h14 (N1.mp q)) (D1.trans h52), u_two0 hw9 (by decide)]
               exact L7)
      · obtain ⟨hw9, hs9⟩ := is_least h81
        refine r_aload_n dX10_readUnit_84 rfl (by rfl) ?_
        refine r_iconst (v := nI 5) dX10_readUnit_85 (by decide) ?_
        refine r_bipush (v := nI 6) dX10_readUnit_86 (by decide) ?_
        refine r_callV (n_two6 (a := (skip g len a)) (b := 5) (d := d) (by omega) G) mv_X10_readTwo ml_X10_274 ⟨by omega, by decide⟩ dX10_readUnit_88 (by first | assumption | rfl) rfl rfl rfl (Nat.le_of_ble_eq_true rfl) (fun v9 y7 h9 => ?_)
        obtain ⟨rfl, L7, K7⟩ := h9
        refine r_goto (tgt := 154) dX10_readUnit_91 (by decide) ?_
        refine r_ret rfl dX10_readUnit_154 ?_
        first
          | (refine ⟨rfl, ?_, CH.gd.lk.trans (CH.wr.lk.trans (LK.op.trans LK.op))⟩
             rw [u_par0 (N1.mpr h14)]
             exact (G.er CH.wr (PSt.ch (PSt.wr (b := (skip g len a)) (k := 3) (p := (skip g len a)) S hsl (by omega)) (fun _ _ => rfl) rfl)).op.op)
          | (refine ⟨rfl, ?_, CH.gd.lk.trans (C2.lk.trans K6)⟩
             rw [u_num (fun q => h14 (N1.mp q)) (D1.trans h52)]
             exact L6)
          | (refine ⟨rfl, ?_, CH.gd.lk.trans K7⟩
             rw [u_nam (fun q => h14 (N1.mp q)) (D1.trans h52), u_two0 hw9 (by decide)]
             exact L7)
    · refine r_aload_n dX10_readUnit_55 rfl (by rfl) ?_
      refine r_iconst (v := nI 0) dX10_readUnit_56 (by decide) ?_
      refine r_aload_n dX10_readUnit_57 rfl (by rfl) ?_
      refine r_iconst (v := nI 0) dX10_readUnit_58 (by decide) ?_
      refine r_sipush (v := nI 999) dX10_readUnit_59 (by decide) ?_
      refine r_callV (t_num (r := .ok (skip g len a)) (lo := 0) (n := 1000) (hv := nI 999) G.1 (by decide) (by decide) (fun v hv => hv_C (by decide) hv)) mv_X10_readNumber ml_X10_181 ⟨by omega, by decide⟩ dX10_readUnit_62 (by first | assumption | rfl) rfl rfl rfl (Nat.le_of_ble_eq_true rfl) (fun v9 y5 h9 => ?_)
      obtain ⟨rfl, P2, C2⟩ := h9
      rw [xbn_ok, pNum_skip] at P2
      have L5 := nm_st G C2 P2
      refine PW.topi (show _ = vI (pNum g len 0 1000 a) from (by rw [xbn_ok, pNum_skip])) ?_
      refine r_callV (t_emit (c := nmC (pNum g len 0 1000 a)) L5 (nm_len S.gg (by omega) hl) (nm_kd g len a) nm_of) mv_X10_emit ml_X10_247 ⟨by omega, by decide⟩ dX10_readUnit_65 (by first | assumption | rfl) rfl rfl rfl (Nat.le_of_ble_eq_true rfl) (fun v9 y6 h9 => ?_)
      obtain ⟨rfl, L6, K6⟩ := h9
      refine r_goto (tgt := 154) dX10_readUnit_68 (by decide) ?_
      refine r_ret rfl dX10_readUnit_154 ?_
      first
        | (refine ⟨rfl, ?_, CH.gd.lk.trans (CH.wr.lk.trans (LK.op.trans LK.op))⟩
           rw [u_par0 (N1.mpr h14)]
           exact (G.er CH.wr (PSt.ch (PSt.wr (b := (skip g len a)) (k := 3) (p := (skip g len a)) S hsl (by omega)) (fun _ _ => rfl) rfl)).op.op)
        | (refine ⟨rfl, ?_, CH.gd.lk.trans (C2.lk.trans K6)⟩
           rw [u_num (fun q => h14 (N1.mp q)) (D1.trans h52)]
           exact L6)
        | (refine ⟨rfl, ?_, CH.gd.lk.trans K7⟩
           rw [u_nam (fun q => h14 (N1.mp q)) (D1.trans h52), u_two0 hw9 (by decide)]
           exact L7)
  · have hlt : (skip g len a) + 1 ≤ len := by
      by_cases q : (skip g len a) < len
      · omega
      · have e0 : hrN g len a = 0 := by unfold hrN; rw [if_neg q]
        omega
    have hb5 : ¬ xu (wrX (gdX x (skip g len a)) 3 (skip g len a)) 137 7 (nI 7) 137 5 = -1 := nI_ne1 (show (skip g len a) < 2 ^ 31 by omega)
    refine r_aload_n dX10_readUnit_17 rfl (by rfl) ?_
    refine r_iconst (v := nI 1) dX10_readUnit_18 (by decide) ?_
    refine r_callV (n_open6 (x := gdX x (skip g len a)) (a := (skip g len a)) (b := 1) G.1.2.2.2 G.1.2.1 (by omega) G.2.1) mv_X10_opensOne ml_X10_253 ⟨by omega, by decide⟩ dX10_readUnit_19 (by first | assumption | rfl) rfl rfl rfl (Nat.le_of_ble_eq_true rfl) (fun v9 x9 h9 => ?_)
    obtain ⟨rfl, h9⟩ := h9
    refine PW.xeq h9 ?_
    clear h9 x9
    refine r_aload_n dX10_readUnit_22 rfl (by rfl) ?_
    refine r_callV (n_Sum_b hb5) mv_X10_readSum ml_X10_256 ⟨by omega, by decide⟩ dX10_readUnit_23 (by first | assumption | rfl) rfl rfl rfl (Nat.le_of_ble_eq_true rfl) (fun v9 x9 h9 => ?_)
    obtain ⟨rfl, h9⟩ := h9
    refine PW.xeq h9 ?_
    clear h9 x9
    refine r_aload_n dX10_readUnit_26 rfl (by rfl) ?_
    refine r_bipush (v := nI 41) dX10_readUnit_27 (by decide) ?_
    refine r_callV (n_sign_b hb5) mv_X10_sign ml_X10_234 ⟨by omega, by decide⟩ dX10_readUnit_29 (by first | assumption | rfl) rfl rfl rfl (Nat.le_of_ble_eq_true rfl) (fun v9 x9 h9 => ?_)
    obtain ⟨rfl, h9⟩ := h9
    refine PW.xeq h9 ?_
    clear h9 x9
    refine r_aload_n dX10_readUnit_32 rfl (by rfl) ?_
    refine r_dup dX10_readUnit_33 rfl ?_
    refine gf_X10_141 rfl dX10_readUnit_34 (by first | assumption | rfl) (by rfl) ?_
    refine PW.topi (show _ = nI 7 from rfl) ?_
    refine r_iconst (v := nI 1) dX10_readUnit_37 (by decide) ?_
    refine r_isubN dX10_readUnit_38 (by omega) ?_
    refine pf_X10_141 rfl dX10_readUnit_39 (by first | assumption | rfl) (by rfl) ?_
    refine r_goto (tgt := 154) dX10_readUnit_42 (by decide) ?_
    refine r_ret rfl dX10_readUnit_154 ?_
    first
      | (refine ⟨rfl, ?_, CH.gd.lk.trans (CH.wr.lk.trans (LK.op.trans LK.op))⟩
         rw [u_par0 (N1.mpr h14)]
         exact (G.er CH.wr (PSt.ch (PSt.wr (b := (skip g len a)) (k := 3) (p := (skip g len a)) S hsl (by omega)) (fun _ _ => rfl) rfl)).op.op)
      | (refine ⟨rfl, ?_, CH.gd.lk.trans (C2.lk.trans K6)⟩
         rw [u_num (fun q => h14 (N1.mp q)) (D1.trans h52)]
         exact L6)
      | (refine ⟨rfl, ?_, CH.gd.lk.trans K7⟩
         rw [u_nam (fun q => h14 (N1.mp q)) (D1.trans h52), u_two0 hw9 (by decide)]
         exact L7)
