/-! THE REFERENCE: which clause it is -/
def pWal (g : Nat → Nat) (len : Nat) (h : HS) (a : Nat) : Except PE (HS × Nat) := match pNum g len 0 41 a with
  | .error e => .error e
  | .ok q => .ok ((HS.n h, HS.ck h, q.1, HS.over h, HS.row h, HS.st h), q.2)
def pOvr (g : Nat → Nat) (len : Nat) (h : HS) (a : Nat) : Except PE (HS × Nat) := match pNum g len 1 61 a with
  | .error e => .error e
  | .ok q => .ok ((HS.n h, HS.ck h, HS.wall h, q.1, HS.row h, HS.st h), q.2)
def pStr (g : Nat → Nat) (len : Nat) (h : HS) (a : Nat) : Except PE (HS × Nat) := match pTwo g len 60 41 a with
  | .error e => .error e
  | .ok q => .ok ((HS.n h, HS.ck h + 1, HS.wall h, HS.over h, HS.row h, updN (HS.st h) q.1 (HS.st h q.1 + q.2.1)), q.2.2)
def rwP (g : Nat → Nat) (len w : Nat) (h : HS) (a : Nat) : Except PE (HS × Nat) := if w = ofW 4 then pOf g len 4 10 h a else if w = ofW 5 then pOf g len 5 10 h a else if w = ofW 6 then pOf g len 6 21 h a else if w = ofW 7 then pOf g len 7 241 h a else if w = ofW 8 then pWal g len h a else if w = ofW 9 then pOvr g len h a else pStr g len h a
theorem HL.wal {x y : XS} {g : Nat → Nat} {len a : Nat} {h : HS} (hd : DR x h) (C : CH x y) (hP : PSt y g len (xmp (xbn (.ok a) (pNum g len 0 41)))) : HL (xu y 137 16 (vI (xbn (.ok a) (pNum g len 0 41)))) g len (pWal g len h a) := by
  rw [xbn_ok] at hP ⊢
  unfold pWal
  cases hn : pNum g len 0 41 a with
  | error e =>
    rw [hn] at hP
    exact ⟨PSt.p7 (r := .error e) hP (by decide), fun q hq => by cases hq⟩
  | ok q =>
    rw [hn] at hP
    refine ⟨PSt.p7 (r := .ok q.2) hP (by decide), fun q9 hq => ?_⟩
    injection hq with hq
    subst hq
    obtain ⟨h1, h2, h3, h4, h5, h6, h7, h8⟩ := hd.ch C
    exact ⟨h1, h2, xu_s, h4, h5, h6, h7, h8⟩
theorem HL.ovr {x y : XS} {g : Nat → Nat} {len a : Nat} {h : HS} (hd : DR x h) (C : CH x y) (hP : PSt y g len (xmp (xbn (.ok a) (pNum g len 1 61)))) : HL (xu y 137 17 (vI (xbn (.ok a) (pNum g len 1 61)))) g len (pOvr g len h a) := by
  rw [xbn_ok] at hP ⊢
  unfold pOvr
  cases hn : pNum g len 1 61 a with
  | error e =>
    rw [hn] at hP
    exact ⟨PSt.p7 (r := .error e) hP (by decide), fun q hq => by cases hq⟩
  | ok q =>
    rw [hn] at hP
    refine ⟨PSt.p7 (r := .ok q.2) hP (by decide), fun q9 hq => ?_⟩
    injection hq with hq
    subst hq
    obtain ⟨h1, h2, h3, h4, h5, h6, h7, h8⟩ := hd.ch C
    exact ⟨h1, h2, h3, xu_s, h5, h6, h7, h8⟩
theorem HL.stk {x y : XS} {g : Nat → Nat} {len a : Nat} {h : HS} {q : Nat × Nat × Nat} (hd : DR x h) (hc : HS.ck h < 6) (C : CH x y) (hT : pTwo g len 60 41 a = .ok q) (hP : PSt y g len (.ok q.2.2)) : HL (xu (xu y 141 q.1 (nI (HS.st h q.1 + q.2.1))) 137 15 (xu y 141 q.1 (nI (HS.st h q.1 + q.2.1)) 137 15 + nI 1)) g len (pStr g len h a) := by
  unfold pStr
  rw [hT]
  refine ⟨PSt.p7 (r := .ok q.2.2) hP.p1 (by decide), fun q9 hq => ?_⟩
  injection hq with hq
  subst hq
  obtain ⟨h1, h2, h3, h4, h5, h6, h7, h8⟩ := hd.ch C
  refine ⟨h1, ?_, h3, h4, h5, hc, h7, fun m hm => ?_⟩
  · rw [xu_s]
    show y 137 15 + nI 1 = nI (HS.ck h + 1)
    rw [h2, nI_add]
  · show upd (y 141) q.1 (nI (HS.st h q.1 + q.2.1)) m = nI (if m = q.1 then HS.st h q.1 + q.2.1 else HS.st h m)
    by_cases e : m = q.1
    · subst e
      rw [pk_us, if_pos rfl]
    · rw [pk_un e, if_neg e]
      exact h8 m hm
theorem HL.ske {y : XS} {g : Nat → Nat} {len a : Nat} {h : HS} {e : PE} {v : Int32} (hT : pTwo g len 60 41 a = .error e) (hP : PSt y g len (.error e)) : HL (xu y 137 15 v) g len (pStr g len h a) := by
  unfold pStr
  rw [hT]
  exact ⟨PSt.p7 (r := .error e) hP (by decide), fun q hq => by cases hq⟩
set_option maxHeartbeats 8000000 in
set_option maxRecDepth 20000 in
theorem n_readRow {g : Nat → Nat} {len a w : Nat} {h : HS} {x : XS} (hP : PSt x g len (.ok a)) (hd : DR x h) (hw : w < 2 ^ 30) (hck : ¬ w = ofW 4 → ¬ w = ofW 5 → ¬ w = ofW 6 → ¬ w = ofW 7 → ¬ w = ofW 8 → ¬ w = ofW 9 → HS.ck h < 6) : MM mX10_readRow 5 0 0 [.ref 137, .int (nI w)] x (fun v y => v = none ∧ HL y g len (rwP g len w h a) ∧ HK x y) NoT := by
  refine MM.of (by decide) (Nat.le_of_ble_eq_true rfl) ?_
  have y137 := lay_137
  have y140 := lay_140
  have y141 := lay_141
  have b4 := of_lt 4 (by decide) (by decide)
  have b5 := of_lt 5 (by decide) (by decide)
  have b6 := of_lt 6 (by decide) (by decide)
  have b7 := of_lt 7 (by decide) (by decide)
  have b8 := of_lt 8 (by decide) (by decide)
  have b9 := of_lt 9 (by decide) (by decide)
  have b10 := of_lt 10 (by decide) (by decide)
  refine r_iload_n dX10_readRow_0 rfl (by rfl) ?_
  refine r_ldcS (i := 4) rfl dX10_readRow_1 ?_
  refine r_callS (n_of (i := 4) (by decide) (by decide)) ms_X10_of ml_X10_187 ⟨by decide, by decide⟩ dX10_readRow_3 rfl (Nat.le_of_ble_eq_true rfl) (fun v9 x9 h9 => ?_)
  obtain ⟨rfl, h9⟩ := h9
  refine PW.xeq h9 ?_
  clear h9 x9
  refine r_icmp_neN (tgt := 19) dX10_readRow_6 (by decide) (by omega) (by omega) (fun h6 => ?_) (fun h6 => ?_)
  · refine r_iload_n dX10_readRow_19 rfl (by rfl) ?_
    refine r_ldcS (i := 5) rfl dX10_readRow_20 ?_
    refine r_callS (n_of (i := 5) (by decide) (by decide)) ms_X10_of ml_X10_187 ⟨by decide, by decide⟩ dX10_readRow_22 rfl (Nat.le_of_ble_eq_true rfl) (fun v9 x9 h9 => ?_)
    obtain ⟨rfl, h9⟩ := h9
    refine PW.xeq h9 ?_
    clear h9 x9
    refine r_icmp_neN (tgt := 38) dX10_readRow_25 (by decide) (by omega) (by omega) (fun h25 => ?_) (fun h25 => ?_)
    · refine r_iload_n dX10_readRow_38 rfl (by rfl) ?_
      refine r_ldcS (i := 6) rfl dX10_readRow_39 ?_
      refine r_callS (n_of (i := 6) (by decide) (by decide)) ms_X10_of ml_X10_187 ⟨by decide, by decide⟩ dX10_readRow_41 rfl (Nat.le_of_ble_eq_true rfl) (fun v9 x9 h9 => ?_)
      obtain ⟨rfl, h9⟩ := h9
      refine PW.xeq h9 ?_
      clear h9 x9
      refine r_icmp_neN (tgt := 58) dX10_readRow_44 (by decide) (by omega) (by omega) (fun h44 => ?_) (fun h44 => ?_)
      · refine r_iload_n dX10_readRow_58 rfl (by rfl) ?_
        refine r_ldcS (i := 7) rfl dX10_readRow_59 ?_
        refine r_callS (n_of (i := 7) (by decide) (by decide)) ms_X10_of ml_X10_187 ⟨by decide, by decide⟩ dX10_readRow_61 rfl (Nat.le_of_ble_eq_true rfl) (fun v9 x9 h9 => ?_)
        obtain ⟨rfl, h9⟩ := h9
        refine PW.xeq h9 ?_
        clear h9 x9
        refine r_icmp_neN (tgt := 79) dX10_readRow_64 (by decide) (by omega) (by omega) (fun h64 => ?_) (fun h64 => ?_)
        · refine r_iload_n dX10_readRow_79 rfl (by rfl) ?_
          refine r_ldcS (i := 8) rfl dX10_readRow_80 ?_
          refine r_callS (n_of (i := 8) (by decide) (by decide)) ms_X10_of ml_X10_187 ⟨by decide, by decide⟩ dX10_readRow_82 rfl (Nat.le_of_ble_eq_true rfl) (fun v9 x9 h9 => ?_)
          obtain ⟨rfl, h9⟩ := h9
          refine PW.xeq h9 ?_
          clear h9 x9
          refine r_icmp_neN (tgt := 102) dX10_readRow_85 (by decide) (by omega) (by omega) (fun h85 => ?_) (fun h85 => ?_)
          · refine r_iload_n dX10_readRow_102 rfl (by rfl) ?_
            refine r_ldcS (i := 9) rfl dX10_readRow_103 ?_
            refine r_callS (n_of (i := 9) (by decide) (by decide)) ms_X10_of ml_X10_187 ⟨by decide, by decide⟩ dX10_readRow_105 rfl (Nat.le_of_ble_eq_true rfl) (fun v9 x9 h9 => ?_)
            obtain ⟨rfl, h9⟩ := h9
            refine PW.xeq h9 ?_
            clear h9 x9
            refine r_icmp_neN (tgt := 125) dX10_readRow_108 (by decide) (by omega) (by omega) (fun h108 => ?_) (fun h108 => ?_)
            · refine r_aload_n dX10_readRow_125 rfl (by rfl) ?_
              refine r_iconst (v := nI 0) dX10_readRow_126 (by decide) ?_
              refine r_bipush (v := nI 59) dX10_readRow_127 (by decide) ?_
              refine r_callV (t_num (lo := 0) (n := 60) (hv := nI 59) hP (by decide) (by decide) (fun v hv => hv_C (by decide) hv)) mv_X10_readNumber ml_X10_181 ⟨by decide, by decide⟩ dX10_readRow_129 (by first | assumption | rfl) rfl rfl rfl (Nat.le_of_ble_eq_true rfl) (fun v9 y1 h9 => ?_)
              obtain ⟨rfl, P1, C1⟩ := h9
              refine r_istore_n dX10_readRow_132 rfl (by decide) ?_
              refine r_aload_n dX10_readRow_133 rfl (by rfl) ?_
              refine r_iconst (v := nI 0) dX10_readRow_134 (by decide) ?_
              refine r_bipush (v := nI 40) dX10_readRow_135 (by decide) ?_
              refine r_callV (t_num (lo := 0) (n := 41) (hv := nI 40) P1 (by decide) (by decide) (fun v hv => hv_C (by decide) hv)) mv_X10_readNumber ml_X10_181 ⟨by decide, by decide⟩ dX10_readRow_137 (by first | assumption | rfl) rfl rfl rfl (Nat.le_of_ble_eq_true rfl) (fun v9 y2 h9 => ?_)
              obtain ⟨rfl, P2, C2⟩ := h9
              rw [two_T] at P2
              refine r_istore_n dX10_readRow_140 rfl (by decide) ?_
              refine r_aload_n dX10_readRow_141 rfl (by rfl) ?_
              refine r_callV (t_fine P2) mv_X10_fine ml_X10_130 ⟨by decide, by decide⟩ dX10_readRow_142 (by first | assumption | rfl) rfl rfl rfl (Nat.le_of_ble_eq_true rfl) (fun v9 x9 h9 => ?_)
              obtain ⟨rfl, h9⟩ := h9
              refine PW.xeq h9 ?_
              clear h9 x9
              refine r_if_eqB (tgt := 158) dX10_readRow_145 (by decide) (fun h145 => ?_) (fun h145 => ?_)
              · refine r_aload_n dX10_readRow_158 rfl (by rfl) ?_
                refine r_dup dX10_readRow_159 rfl ?_
                refine gf_X10_147 rfl dX10_readRow_160 (by first | assumption | rfl) (by rfl) ?_
                refine r_iconst (v := nI 1) dX10_readRow_163 (by decide) ?_
                refine r_iadd dX10_readRow_164 ?_
                refine pf_X10_147 rfl dX10_readRow_165 (by first | assumption | rfl) (by rfl) ?_
                refine r_ret rfl dX10_readRow_168 ?_
                first
                  | (refine ⟨rfl, ?_, K9⟩
                     unfold rwP; rw [if_pos h6]
                     exact L9)
                  | (refine ⟨rfl, ?_, K9⟩
                     unfold rwP; rw [if_neg h6, if_pos h25]
                     exact L9)
                  | (refine ⟨rfl, ?_, K9⟩
                     unfold rwP; rw [if_neg h6, if_neg h25, if_pos h44]
                     exact L9)
                  | (refine ⟨rfl, ?_, K9⟩
                     unfold rwP; rw [if_neg h6, if_neg h25, if_neg h44, if_pos h64]
                     exact L9)
                  | (refine ⟨rfl, ?_, C1.hk.p7 (by decide)⟩
                     unfold rwP; rw [if_neg h6, if_neg h25, if_neg h44, if_neg h64, if_pos h85]
                     exact HL.wal hd C1 P1)
                  | (refine ⟨rfl, ?_, C1.hk.p7 (by decide)⟩
                     unfold rwP; rw [if_neg h6, if_neg h25, if_neg h44, if_neg h64, if_neg h85, if_pos h108]
                     exact HL.ovr hd C1 P1)
                  | (rw [hT] at P2
                     refine ⟨rfl, ?_, (C1.trans C2).hk.p1.p7 (by decide)⟩
                     unfold rwP; rw [if_neg h6, if_neg h25, if_neg h44, if_neg h64, if_neg h85, if_neg h108]
                     exact HL.stk hd (hck h6 h25 h44 h64 h85 h108) (C1.trans C2) hT P2)
                  | (obtain ⟨e, hT⟩ := two_e h145
                     rw [hT] at P2
                     refine ⟨rfl, ?_, (C1.trans C2).hk.p7 (by decide)⟩
                     unfold rwP; rw [if_neg h6, if_neg h25, if_neg h44, if_neg h64, if_neg h85, if_neg h108]
                     exact HL.ske hT P2)
              · obtain ⟨q, hT⟩ := two_q h145
                obtain ⟨v1, v2, hq1, hq2⟩ := two_v hT
                rw [v1, v2]
                refine PW.lc (L' := [(0, .ref 137), (1, .int (nI w)), (2, .int (nI q.1)), (3, .int (nI q.2.1))]) (by rfl) rfl ?_
                refine r_aload_n dX10_readRow_148 rfl (by rfl) ?_
                refine gf_X10_26 rfl dX10_readRow_149 (by first | assumption | rfl) (by rfl) ?_
                refine r_iload_n dX10_readRow_152 rfl (by rfl) ?_
                refine r_dup2 dX10_readRow_153 rfl rfl ?_
                refine r_ialdN dX10_readRow_154 (by first | assumption | rfl) (by omega) (by decide) ?_
                refine r_iload_n dX10_readRow_155 rfl (by rfl) ?_
                refine r_iadd dX10_readRow_156 ?_
                refine PW.topi (show _ = nI (HS.st h q.1 + q.2.1) from (by rw [(C1.trans C2).1 141 (by decide), hd.2.2.2.2.2.2.2 q.1 hq1, nI_add])) ?_
                refine r_iastN dX10_readRow_157 (by first | assumption | rfl) (by omega) (by decide) ?_
                refine r_aload_n dX10_readRow_158 rfl (by rfl) ?_
                refine r_dup dX10_readRow_159 rfl ?_
                refine gf_X10_147 rfl dX10_readRow_160 (by first | assumption | rfl) (by rfl) ?_
                refine r_iconst (v := nI 1) dX10_readRow_163 (by decide) ?_
                refine r_iadd dX10_readRow_164 ?_
                refine pf_X10_147 rfl dX10_readRow_165 (by first | assumption | rfl) (by rfl) ?_
                refine r_ret rfl dX10_readRow_168 ?_
                first
                  | (refine ⟨rfl, ?_, K9⟩
                     unfold rwP; rw [if_pos h6]
                     exact L9)
                  | (refine ⟨rfl, ?_, K9⟩
                     unfold rwP; rw [if_neg h6, if_pos h25]
                     exact L9)
                  | (refine ⟨rfl, ?_, K9⟩
                     unfold rwP; rw [if_neg h6, if_neg h25, if_pos h44]
                     exact L9)
                  | (refine ⟨rfl, ?_, K9⟩
                     unfold rwP; rw [if_neg h6, if_neg h25, if_neg h44, if_pos h64]
                     exact L9)
                  | (refine ⟨rfl, ?_, C1.hk.p7 (by decide)⟩
                     unfold rwP; rw [if_neg h6, if_neg h25, if_neg h44, if_neg h64, if_pos h85]
                     exact HL.wal hd C1 P1)
                  | (refine ⟨rfl, ?_, C1.hk.p7 (by decide)⟩
                     unfold rwP; rw [if_neg h6, if_neg h25, if_neg h44, if_neg h64, if_neg h85, if_pos h108]
                     exact HL.ovr hd C1 P1)
                  | (rw [hT] at P2
                     refine ⟨rfl, ?_, (C1.trans C2).hk.p1.p7 (by decide)⟩
                     unfold rwP; rw [if_neg h6, if_neg h25, if_neg h44, if_neg h64, if_neg h85, if_neg h108]
                     exact HL.stk hd (hck h6 h25 h44 h64 h85 h108) (C1.trans C2) hT P2)
                  | (obtain ⟨e, hT⟩ := two_e h145
                     rw [hT] at P2
                     refine ⟨rfl, ?_, (C1.trans C2).hk.p7 (by decide)⟩
                     unfold rwP; rw [if_neg h6, if_neg h25, if_neg h44, if_neg h64, if_neg h85, if_neg h108]
                     exact HL.ske hT P2)
            · refine r_aload_n dX10_readRow_111 rfl (by rfl) ?_
              refine r_aload_n dX10_readRow_112 rfl (by rfl) ?_
              refine r_iconst (v := nI 1) dX10_readRow_113 (by decide) ?_
              refine r_bipush (v := nI 60) dX10_readRow_114 (by decide) ?_
              refine r_callV (t_num (lo := 1) (n := 61) (hv := nI 60) hP (by decide) (by decide) (fun v hv => hv_C (by decide) hv)) mv_X10_readNumber ml_X10_181 ⟨by decide, by decide⟩ dX10_readRow_116 (by first | assumption | rfl) rfl rfl rfl (Nat.le_of_ble_eq_true rfl) (fun v9 y1 h9 => ?_)
              obtain ⟨rfl, P1, C1⟩ := h9
              refine pf_X10_153 rfl dX10_readRow_119 (by first | assumption | rfl) (by rfl) ?_
              refine r_goto (tgt := 168) dX10_readRow_122 (by decide) ?_
              refine r_ret rfl dX10_readRow_168 ?_
              first
                | (refine ⟨rfl, ?_, K9⟩
                   unfold rwP; rw [if_pos h6]
                   exact L9)
                | (refine ⟨rfl, ?_, K9⟩
                   unfold rwP; rw [if_neg h6, if_pos h25]
                   exact L9)
                | (refine ⟨rfl, ?_, K9⟩
                   unfold rwP; rw [if_neg h6, if_neg h25, if_pos h44]
                   exact L9)
                | (refine ⟨rfl, ?_, K9⟩
                   unfold rwP; rw [if_neg h6, if_neg h25, if_neg h44, if_pos h64]
                   exact L9)
                | (refine ⟨rfl, ?_, C1.hk.p7 (by decide)⟩
                   unfold rwP; rw [if_neg h6, if_neg h25, if_neg h44, if_neg h64, if_pos h85]
                   exact HL.wal hd C1 P1)
                | (refine ⟨rfl, ?_, C1.hk.p7 (by decide)⟩
                   unfold rwP; rw [if_neg h6, if_neg h25, if_neg h44, if_neg h64, if_neg h85, if_pos h108]
                   exact HL.ovr hd C1 P1)
                | (rw [hT] at P2
                   refine ⟨rfl, ?_, (C1.trans C2).hk.p1.p7 (by decide)⟩
                   unfold rwP; rw [if_neg h6, if_neg h25, if_neg h44, if_neg h64, if_neg h85, if_neg h108]
                   exact HL.stk hd (hck h6 h25 h44 h64 h85 h108) (C1.trans C2) hT P2)
                | (obtain ⟨e, hT⟩ := two_e h145
                   rw [hT] at P2
                   refine ⟨rfl, ?_, (C1.trans C2).hk.p7 (by decide)⟩
                   unfold rwP; rw [if_neg h6, if_neg h25, if_neg h44, if_neg h64, if_neg h85, if_neg h108]
                   exact HL.ske hT P2)
          · refine r_aload_n dX10_readRow_88 rfl (by rfl) ?_
            refine r_aload_n dX10_readRow_89 rfl (by rfl) ?_
            refine r_iconst (v := nI 0) dX10_readRow_90 (by decide) ?_
            refine r_bipush (v := nI 40) dX10_readRow_91 (by decide) ?_
            refine r_callV (t_num (lo := 0) (n := 41) (hv := nI 40) hP (by decide) (by decide) (fun v hv => hv_C (by decide) hv)) mv_X10_readNumber ml_X10_181 ⟨by decide, by decide⟩ dX10_readRow_93 (by first | assumption | rfl) rfl rfl rfl (Nat.le_of_ble_eq_true rfl) (fun v9 y1 h9 => ?_)
            obtain ⟨rfl, P1, C1⟩ := h9
            refine pf_X10_150 rfl dX10_readRow_96 (by first | assumption | rfl) (by rfl) ?_
            refine r_goto (tgt := 168) dX10_readRow_99 (by decide) ?_
            refine r_ret rfl dX10_readRow_168 ?_
            first
              | (refine ⟨rfl, ?_, K9⟩
                 unfold rwP; rw [if_pos h6]
                 exact L9)
              | (refine ⟨rfl, ?_, K9⟩
                 unfold rwP; rw [if_neg h6, if_pos h25]
                 exact L9)
              | (refine ⟨rfl, ?_, K9⟩
                 unfold rwP; rw [if_neg h6, if_neg h25, if_pos h44]
                 exact L9)
              | (refine ⟨rfl, ?_, K9⟩
                 unfold rwP; rw [if_neg h6, if_neg h25, if_neg h44, if_pos h64]
                 exact L9)
              | (refine ⟨rfl, ?_, C1.hk.p7 (by decide)⟩
                 unfold rwP; rw [if_neg h6, if_neg h25, if_neg h44, if_neg h64, if_pos h85]
                 exact HL.wal hd C1 P1)
              | (refine ⟨rfl, ?_, C1.hk.p7 (by decide)⟩
                 unfold rwP; rw [if_neg h6, if_neg h25, if_neg h44, if_neg h64, if_neg h85, if_pos h108]
                 exact HL.ovr hd C1 P1)
              | (rw [hT] at P2
                 refine ⟨rfl, ?_, (C1.trans C2).hk.p1.p7 (by decide)⟩
                 unfold rwP; rw [if_neg h6, if_neg h25, if_neg h44, if_neg h64, if_neg h85, if_neg h108]
                 exact HL.stk hd (hck h6 h25 h44 h64 h85 h108) (C1.trans C2) hT P2)
              | (obtain ⟨e, hT⟩ := two_e h145
                 rw [hT] at P2
                 refine ⟨rfl, ?_, (C1.trans C2).hk.p7 (by decide)⟩
                 unfold rwP; rw [if_neg h6, if_neg h25, if_neg h44, if_neg h64, if_neg h85, if_neg h108]
                 exact HL.ske hT P2)
        · refine r_aload_n dX10_readRow_67 rfl (by rfl) ?_
          refine r_bipush (v := nI 7) dX10_readRow_68 (by decide) ?_
          refine r_sipush (v := nI 240) dX10_readRow_70 (by decide) ?_
          refine r_callV (n_readOf (k := 7) (m := 240) hP hd (by decide) (by decide)) mv_X10_readOf ml_X10_191 ⟨by decide, by decide⟩ dX10_readRow_73 (by first | assumption | rfl) rfl rfl rfl (Nat.le_of_ble_eq_true rfl) (fun v9 y9 h9 => ?_)
          obtain ⟨rfl, L9, K9⟩ := h9
          refine r_goto (tgt := 168) dX10_readRow_76 (by decide) ?_
          refine r_ret rfl dX10_readRow_168 ?_
          first
            | (refine ⟨rfl, ?_, K9⟩
               unfold rwP; rw [if_pos h6]
               exact L9)
            | (refine ⟨rfl, ?_, K9⟩
               unfold rwP; rw [if_neg h6, if_pos h25]
               exact L9)
            | (refine ⟨rfl, ?_, K9⟩
               unfold rwP; rw [if_neg h6, if_neg h25, if_pos h44]
               exact L9)
            | (refine ⟨rfl, ?_, K9⟩
               unfold rwP; rw [if_neg h6, if_neg h25, if_neg h44, if_pos h64]
               exact L9)
            | (refine ⟨rfl, ?_, C1.hk.p7 (by decide)⟩
               unfold rwP; rw [if_neg h6, if_neg h25, if_neg h44, if_neg h64, if_pos h85]
               exact HL.wal hd C1 P1)
            | (refine ⟨rfl, ?_, C1.hk.p7 (by decide)⟩
               unfold rwP; rw [if_neg h6, if_neg h25, if_neg h44, if_neg h64, if_neg h85, if_pos h108]
               exact HL.ovr hd C1 P1)
            | (rw [hT] at P2
               refine ⟨rfl, ?_, (C1.trans C2).hk.p1.p7 (by decide)⟩
               unfold rwP; rw [if_neg h6, if_neg h25, if_neg h44, if_neg h64, if_neg h85, if_neg h108]
               exact HL.stk hd (hck h6 h25 h44 h64 h85 h108) (C1.trans C2) hT P2)
            | (obtain ⟨e, hT⟩ := two_e h145
               rw [hT] at P2
               refine ⟨rfl, ?_, (C1.trans C2).hk.p7 (by decide)⟩
               unfold rwP; rw [if_neg h6, if_neg h25, if_neg h44, if_neg h64, if_neg h85, if_neg h108]
               exact HL.ske hT P2)
      · refine r_aload_n dX10_readRow_47 rfl (by rfl) ?_
        refine r_bipush (v := nI 6) dX10_readRow_48 (by decide) ?_
        refine r_bipush (v := nI 20) dX10_readRow_50 (by decide) ?_
        refine r_callV (n_readOf (k := 6) (m := 20) hP hd (by decide) (by decide)) mv_X10_readOf ml_X10_191 ⟨by decide, by decide⟩ dX10_readRow_52 (by first | assumption | rfl) rfl rfl rfl (Nat.le_of_ble_eq_true rfl) (fun v9 y9 h9 => ?_)
        obtain ⟨rfl, L9, K9⟩ := h9
        refine r_goto (tgt := 168) dX10_readRow_55 (by decide) ?_
        refine r_ret rfl dX10_readRow_168 ?_
        first
          | (refine ⟨rfl, ?_, K9⟩
             unfold rwP; rw [if_pos h6]
             exact L9)
          | (refine ⟨rfl, ?_, K9⟩
             unfold rwP; rw [if_neg h6, if_pos h25]
             exact L9)
          | (refine ⟨rfl, ?_, K9⟩
             unfold rwP; rw [if_neg h6, if_neg h25, if_pos h44]
             exact L9)
          | (refine ⟨rfl, ?_, K9⟩
             unfold rwP; rw [if_neg h6, if_neg h25, if_neg h44, if_pos h64]
             exact L9)
          | (refine ⟨rfl, ?_, C1.hk.p7 (by decide)⟩
             unfold rwP; rw [if_neg h6, if_neg h25, if_neg h44, if_neg h64, if_pos h85]
             exact HL.wal hd C1 P1)
          | (refine ⟨rfl, ?_, C1.hk.p7 (by decide)⟩
             unfold rwP; rw [if_neg h6, if_neg h25, if_neg h44, if_neg h64, if_neg h85, if_pos h108]
             exact HL.ovr hd C1 P1)
          | (rw [hT] at P2
             refine ⟨rfl, ?_, (C1.trans C2).hk.p1.p7 (by decide)⟩
             unfold rwP; rw [if_neg h6, if_neg h25, if_neg h44, if_neg h64, if_neg h85, if_neg h108]
             exact HL.stk hd (hck h6 h25 h44 h64 h85 h108) (C1.trans C2) hT P2)
          | (obtain ⟨e, hT⟩ := two_e h145
             rw [hT] at P2
             refine ⟨rfl, ?_, (C1.trans C2).hk.p7 (by decide)⟩
             unfold rwP; rw [if_neg h6, if_neg h25, if_neg h44, if_neg h64, if_neg h85, if_neg h108]
             exact HL.ske hT P2)
    · refine r_aload_n dX10_readRow_28 rfl (by rfl) ?_
      refine r_iconst (v := nI 5) dX10_readRow_29 (by decide) ?_
      refine r_bipush (v := nI 9) dX10_readRow_30 (by decide) ?_
      refine r_callV (n_readOf (k := 5) (m := 9) hP hd (by decide) (by decide)) mv_X10_readOf ml_X10_191 ⟨by decide, by decide⟩ dX10_readRow_32 (by first | assumption | rfl) rfl rfl rfl (Nat.le_of_ble_eq_true rfl) (fun v9 y9 h9 => ?_)
      obtain ⟨rfl, L9, K9⟩ := h9
      refine r_goto (tgt := 168) dX10_readRow_35 (by decide) ?_
      refine r_ret rfl dX10_readRow_168 ?_
      first
        | (refine ⟨rfl, ?_, K9⟩
           unfold rwP; rw [if_pos h6]
           exact L9)
        | (refine ⟨rfl, ?_, K9⟩
           unfold rwP; rw [if_neg h6, if_pos h25]
           exact L9)
        | (refine ⟨rfl, ?_, K9⟩
           unfold rwP; rw [if_neg h6, if_neg h25, if_pos h44]
           exact L9)
        | (refine ⟨rfl, ?_, K9⟩
           unfold rwP; rw [if_neg h6, if_neg h25, if_neg h44, if_pos h64]
           exact L9)
        | (refine ⟨rfl, ?_, C1.hk.p7 (by decide)⟩
           unfold rwP; rw [if_neg h6, if_neg h25, if_neg h44, if_neg h64, if_pos h85]
           exact HL.wal hd C1 P1)
        | (refine ⟨rfl, ?_, C1.hk.p7 (by decide)⟩
           unfold rwP; rw [if_neg h6, if_neg h25, if_neg h44, if_neg h64, if_neg h85, if_pos h108]
           exact HL.ovr hd C1 P1)
        | (rw [hT] at P2
           refine ⟨rfl, ?_, (C1.trans C2).hk.p1.p7 (by decide)⟩
           unfold rwP; rw [if_neg h6, if_neg h25, if_neg h44, if_neg h64, if_neg h85, if_neg h108]
           exact HL.stk hd (hck h6 h25 h44 h64 h85 h108) (C1.trans C2) hT P2)
        | (obtain ⟨e, hT⟩ := two_e h145
           rw [hT] at P2
           refine ⟨rfl, ?_, (C1.trans C2).hk.p7 (by decide)⟩
           unfold rwP; rw [if_neg h6, if_neg h25, if_neg h44, if_neg h64, if_neg h85, if_neg h108]
           exact HL.ske hT P2)
  · refine r_aload_n dX10_readRow_9 rfl (by rfl) ?_
    refine r_iconst (v := nI 4) dX10_readRow_10 (by decide) ?_
    refine r_bipush (v := nI 9) dX10_readRow_11 (by decide) ?_
    refine r_callV (n_readOf (k := 4) (m := 9) hP hd (by decide) (by decide)) mv_X10_readOf ml_X10_191 ⟨by decide, by decide⟩ dX10_readRow_13 (by first | assumption | rfl) rfl rfl rfl (Nat.le_of_ble_eq_true rfl) (fun v9 y9 h9 => ?_)
    obtain ⟨rfl, L9, K9⟩ := h9
    refine r_goto (tgt := 168) dX10_readRow_16 (by decide) ?_
    refine r_ret rfl dX10_readRow_168 ?_
    first
      | (refine ⟨rfl, ?_, K9⟩
         unfold rwP; rw [if_pos h6]
         exact L9)
      | (refine ⟨rfl, ?_, K9⟩
         unfold rwP; rw [if_neg h6, if_pos h25]
         exact L9)
      | (refine ⟨rfl, ?_, K9⟩
         unfold rwP; rw [if_neg h6, if_neg h25, if_pos h44]
         exact L9)
      | (refine ⟨rfl, ?_, K9⟩
         unfold rwP; rw [if_neg h6, if_neg h25, if_neg h44, if_pos h64]
         exact L9)
      | (refine ⟨rfl, ?_, C1.hk.p7 (by decide)⟩
         unfold rwP; rw [if_neg h6, if_neg h25, if_neg h44, if_neg h64, if_pos h85]
         exact HL.wal hd C1 P1)
      | (refine ⟨rfl, ?_, C1.hk.p7 (by decide)⟩
         unfold rwP; rw [if_neg h6, if_neg h25, if_neg h44, if_neg h64, if_neg h85, if_pos h108]
         exact HL.ovr hd C1 P1)
      | (rw [hT] at P2
         refine ⟨rfl, ?_, (C1.trans C2).hk.p1.p7 (by decide)⟩
         unfold rwP; rw [if_neg h6, if_neg h25, if_neg h44, if_neg h64, if_neg h85, if_neg h108]
         exact HL.stk hd (hck h6 h25 h44 h64 h85 h108) (C1.trans C2) hT P2)
      | (obtain ⟨e, hT⟩ := two_e h145
         rw [hT] at P2
         refine ⟨rfl, ?_, (C1.trans C2).hk.p7 (by decide)⟩
         unfold rwP; rw [if_neg h6, if_neg h25, if_neg h44, if_neg h64, if_neg h85, if_neg h108]
         exact HL.ske hT P2)
def rowB (w : Nat) : Bool := decide (w = ofW 4 ∨ w = ofW 5 ∨ w = ofW 6 ∨ w = ofW 7 ∨ w = ofW 8 ∨ w = ofW 9 ∨ w = ofW 10)
set_option maxHeartbeats 8000000 in
set_option maxRecDepth 20000 in
theorem n_isRow {w : Nat} {x : XS} (hw : w < 2 ^ 30) : MM mX10_isRow 5 0 0 [.int (nI w)] x (fun v y => v = some (.int (bI (rowB w))) ∧ y = x) NoT := by
  refine MM.of (by decide) (Nat.le_of_ble_eq_true rfl) ?_
  have b4 := of_lt 4 (by decide) (by decide)
  have b5 := of_lt 5 (by decide) (by decide)
  have b6 := of_lt 6 (by decide) (by decide)
  have b7 := of_lt 7 (by decide) (by decide)
  have b8 := of_lt 8 (by decide) (by decide)
  have b9 := of_lt 9 (by decide) (by decide)
  have b10 := of_lt 10 (by decide) (by decide)
  refine r_iload_n dX10_isRow_0 rfl (by rfl) ?_
  refine r_ldcS (i := 4) rfl dX10_isRow_1 ?_
  refine r_callS (n_of (i := 4) (by decide) (by decide)) ms_X10_of ml_X10_187 ⟨by decide, by decide⟩ dX10_isRow_3 rfl (Nat.le_of_ble_eq_true rfl) (fun v9 x9 h9 => ?_)
  obtain ⟨rfl, h9⟩ := h9
  refine PW.xeq h9 ?_
  clear h9 x9
  refine r_icmp_eqN (tgt := 63) dX10_isRow_6 (by decide) (by omega) (by omega) (fun h6 => ?_) (fun h6 => ?_)
  · refine r_iconst (v := nI 1) dX10_isRow_63 (by decide) ?_
    refine r_goto (tgt := 68) dX10_isRow_64 (by decide) ?_
    refine r_zret rfl (by first | exact bI_01 _ | exact Or.inl rfl | exact Or.inr rfl) dX10_isRow_68 ?_
    first
      | (have hb : rowB w = false := decide_eq_false (fun q => q.elim h6 (fun q => q.elim h15 (fun q => q.elim h24 (fun q => q.elim h33 (fun q => q.elim h42 (fun q => q.elim h51 h60)))))); refine ⟨?_, rfl⟩; rw [hb]; rfl)
      | (have hb : rowB w = true := decide_eq_true (Or.inr (Or.inr (Or.inr (Or.inr (Or.inr (Or.inr (h60))))))); refine ⟨?_, rfl⟩; rw [hb]; rfl)
      | (have hb : rowB w = true := decide_eq_true (Or.inr (Or.inr (Or.inr (Or.inr (Or.inr (Or.inl h51)))))); refine ⟨?_, rfl⟩; rw [hb]; rfl)
      | (have hb : rowB w = true := decide_eq_true (Or.inr (Or.inr (Or.inr (Or.inr (Or.inl h42))))); refine ⟨?_, rfl⟩; rw [hb]; rfl)
      | (have hb : rowB w = true := decide_eq_true (Or.inr (Or.inr (Or.inr (Or.inl h33)))); refine ⟨?_, rfl⟩; rw [hb]; rfl)
      | (have hb : rowB w = true := decide_eq_true (Or.inr (Or.inr (Or.inl h24))); refine ⟨?_, rfl⟩; rw [hb]; rfl)
      | (have hb : rowB w = true := decide_eq_true (Or.inr (Or.inl h15)); refine ⟨?_, rfl⟩; rw [hb]; rfl)
      | (have hb : rowB w = true := decide_eq_true (Or.inl h6); refine ⟨?_, rfl⟩; rw [hb]; rfl)
  · refine r_iload_n dX10_isRow_9 rfl (by rfl) ?_
    refine r_ldcS (i := 5) rfl dX10_isRow_10 ?_
    refine r_callS (n_of (i := 5) (by decide) (by decide)) ms_X10_of ml_X10_187 ⟨by decide, by decide⟩ dX10_isRow_12 rfl (Nat.le_of_ble_eq_true rfl) (fun v9 x9 h9 => ?_)
    obtain ⟨rfl, h9⟩ := h9
    refine PW.xeq h9 ?_
    clear h9 x9
    refine r_icmp_eqN (tgt := 63) dX10_isRow_15 (by decide) (by omega) (by omega) (fun h15 => ?_) (fun h15 => ?_)
    · refine r_iconst (v := nI 1) dX10_isRow_63 (by decide) ?_
      refine r_goto (tgt := 68) dX10_isRow_64 (by decide) ?_
      refine r_zret rfl (by first | exact bI_01 _ | exact Or.inl rfl | exact Or.inr rfl) dX10_isRow_68 ?_
      first
        | (have hb : rowB w = false := decide_eq_false (fun q => q.elim h6 (fun q => q.elim h15 (fun q => q.elim h24 (fun q => q.elim h33 (fun q => q.elim h42 (fun q => q.elim h51 h60)))))); refine ⟨?_, rfl⟩; rw [hb]; rfl)
        | (have hb : rowB w = true := decide_eq_true (Or.inr (Or.inr (Or.inr (Or.inr (Or.inr (Or.inr (h60))))))); refine ⟨?_, rfl⟩; rw [hb]; rfl)
        | (have hb : rowB w = true := decide_eq_true (Or.inr (Or.inr (Or.inr (Or.inr (Or.inr (Or.inl h51)))))); refine ⟨?_, rfl⟩; rw [hb]; rfl)
        | (have hb : rowB w = true := decide_eq_true (Or.inr (Or.inr (Or.inr (Or.inr (Or.inl h42))))); refine ⟨?_, rfl⟩; rw [hb]; rfl)
        | (have hb : rowB w = true := decide_eq_true (Or.inr (Or.inr (Or.inr (Or.inl h33)))); refine ⟨?_, rfl⟩; rw [hb]; rfl)
        | (have hb : rowB w = true := decide_eq_true (Or.inr (Or.inr (Or.inl h24))); refine ⟨?_, rfl⟩; rw [hb]; rfl)
        | (have hb : rowB w = true := decide_eq_true (Or.inr (Or.inl h15)); refine ⟨?_, rfl⟩; rw [hb]; rfl)
        | (have hb : rowB w = true := decide_eq_true (Or.inl h6); refine ⟨?_, rfl⟩; rw [hb]; rfl)
    · refine r_iload_n dX10_isRow_18 rfl (by rfl) ?_
      refine r_ldcS (i := 6) rfl dX10_isRow_19 ?_
      refine r_callS (n_of (i := 6) (by decide) (by decide)) ms_X10_of ml_X10_187 ⟨by decide, by decide⟩ dX10_isRow_21 rfl (Nat.le_of_ble_eq_true rfl) (fun v9 x9 h9 => ?_)
      obtain ⟨rfl, h9⟩ := h9
      refine PW.xeq h9 ?_
      clear h9 x9
      refine r_icmp_eqN (tgt := 63) dX10_isRow_24 (by decide) (by omega) (by omega) (fun h24 => ?_) (fun h24 => ?_)
      · refine r_iconst (v := nI 1) dX10_isRow_63 (by decide) ?_
        refine r_goto (tgt := 68) dX10_isRow_64 (by decide) ?_
        refine r_zret rfl (by first | exact bI_01 _ | exact Or.inl rfl | exact Or.inr rfl) dX10_isRow_68 ?_
        first
          | (have hb : rowB w = false := decide_eq_false (fun q => q.elim h6 (fun q => q.elim h15 (fun q => q.elim h24 (fun q => q.elim h33 (fun q => q.elim h42 (fun q => q.elim h51 h60)))))); refine ⟨?_, rfl⟩; rw [hb]; rfl)
          | (have hb : rowB w = true := decide_eq_true (Or.inr (Or.inr (Or.inr (Or.inr (Or.inr (Or.inr (h60))))))); refine ⟨?_, rfl⟩; rw [hb]; rfl)
          | (have hb : rowB w = true := decide_eq_true (Or.inr (Or.inr (Or.inr (Or.inr (Or.inr (Or.inl h51)))))); refine ⟨?_, rfl⟩; rw [hb]; rfl)
          | (have hb : rowB w = true := decide_eq_true (Or.inr (Or.inr (Or.inr (Or.inr (Or.inl h42))))); refine ⟨?_, rfl⟩; rw [hb]; rfl)
          | (have hb : rowB w = true := decide_eq_true (Or.inr (Or.inr (Or.inr (Or.inl h33)))); refine ⟨?_, rfl⟩; rw [hb]; rfl)
          | (have hb : rowB w = true := decide_eq_true (Or.inr (Or.inr (Or.inl h24))); refine ⟨?_, rfl⟩; rw [hb]; rfl)
          | (have hb : rowB w = true := decide_eq_true (Or.inr (Or.inl h15)); refine ⟨?_, rfl⟩; rw [hb]; rfl)
          | (have hb : rowB w = true := decide_eq_true (Or.inl h6); refine ⟨?_, rfl⟩; rw [hb]; rfl)
      · refine r_iload_n dX10_isRow_27 rfl (by rfl) ?_
        refine r_ldcS (i := 7) rfl dX10_isRow_28 ?_
        refine r_callS (n_of (i := 7) (by decide) (by decide)) ms_X10_of ml_X10_187 ⟨by decide, by decide⟩ dX10_isRow_30 rfl (Nat.le_of_ble_eq_true rfl) (fun v9 x9 h9 => ?_)
        obtain ⟨rfl, h9⟩ := h9
        refine PW.xeq h9 ?_
        clear h9 x9
        refine r_icmp_eqN (tgt := 63) dX10_isRow_33 (by decide) (by omega) (by omega) (fun h33 => ?_) (fun h33 => ?_)
        · refine r_iconst (v := nI 1) dX10_isRow_63 (by decide) ?_
          refine r_goto (tgt := 68) dX10_isRow_64 (by decide) ?_
          refine r_zret rfl (by first | exact bI_01 _ | exact Or.inl rfl | exact Or.inr rfl) dX10_isRow_68 ?_
          first
            | (have hb : rowB w = false := decide_eq_false (fun q => q.elim h6 (fun q => q.elim h15 (fun q => q.elim h24 (fun q => q.elim h33 (fun q => q.elim h42 (fun q => q.elim h51 h60)))))); refine ⟨?_, rfl⟩; rw [hb]; rfl)
            | (have hb : rowB w = true := decide_eq_true (Or.inr (Or.inr (Or.inr (Or.inr (Or.inr (Or.inr (h60))))))); refine ⟨?_, rfl⟩; rw [hb]; rfl)
            | (have hb : rowB w = true := decide_eq_true (Or.inr (Or.inr (Or.inr (Or.inr (Or.inr (Or.inl h51)))))); refine ⟨?_, rfl⟩; rw [hb]; rfl)
            | (have hb : rowB w = true := decide_eq_true (Or.inr (Or.inr (Or.inr (Or.inr (Or.inl h42))))); refine ⟨?_, rfl⟩; rw [hb]; rfl)
            | (have hb : rowB w = true := decide_eq_true (Or.inr (Or.inr (Or.inr (Or.inl h33)))); refine ⟨?_, rfl⟩; rw [hb]; rfl)
            | (have hb : rowB w = true := decide_eq_true (Or.inr (Or.inr (Or.inl h24))); refine ⟨?_, rfl⟩; rw [hb]; rfl)
            | (have hb : rowB w = true := decide_eq_true (Or.inr (Or.inl h15)); refine ⟨?_, rfl⟩; rw [hb]; rfl)
            | (have hb : rowB w = true := decide_eq_true (Or.inl h6); refine ⟨?_, rfl⟩; rw [hb]; rfl)
        · refine r_iload_n dX10_isRow_36 rfl (by rfl) ?_
          refine r_ldcS (i := 8) rfl dX10_isRow_37 ?_
          refine r_callS (n_of (i := 8) (by decide) (by decide)) ms_X10_of ml_X10_187 ⟨by decide, by decide⟩ dX10_isRow_39 rfl (Nat.le_of_ble_eq_true rfl) (fun v9 x9 h9 => ?_)
          obtain ⟨rfl, h9⟩ := h9
          refine PW.xeq h9 ?_
          clear h9 x9
          refine r_icmp_eqN (tgt := 63) dX10_isRow_42 (by decide) (by omega) (by omega) (fun h42 => ?_) (fun h42 => ?_)
          · refine r_iconst (v := nI 1) dX10_isRow_63 (by decide) ?_
            refine r_goto (tgt := 68) dX10_isRow_64 (by decide) ?_
            refine r_zret rfl (by first | exact bI_01 _ | exact Or.inl rfl | exact Or.inr rfl) dX10_isRow_68 ?_
            first
              | (have hb : rowB w = false := decide_eq_false (fun q => q.elim h6 (fun q => q.elim h15 (fun q => q.elim h24 (fun q => q.elim h33 (fun q => q.elim h42 (fun q => q.elim h51 h60)))))); refine ⟨?_, rfl⟩; rw [hb]; rfl)
              | (have hb : rowB w = true := decide_eq_true (Or.inr (Or.inr (Or.inr (Or.inr (Or.inr (Or.inr (h60))))))); refine ⟨?_, rfl⟩; rw [hb]; rfl)
              | (have hb : rowB w = true := decide_eq_true (Or.inr (Or.inr (Or.inr (Or.inr (Or.inr (Or.inl h51)))))); refine ⟨?_, rfl⟩; rw [hb]; rfl)
              | (have hb : rowB w = true := decide_eq_true (Or.inr (Or.inr (Or.inr (Or.inr (Or.inl h42))))); refine ⟨?_, rfl⟩; rw [hb]; rfl)
              | (have hb : rowB w = true := decide_eq_true (Or.inr (Or.inr (Or.inr (Or.inl h33)))); refine ⟨?_, rfl⟩; rw [hb]; rfl)
              | (have hb : rowB w = true := decide_eq_true (Or.inr (Or.inr (Or.inl h24))); refine ⟨?_, rfl⟩; rw [hb]; rfl)
              | (have hb : rowB w = true := decide_eq_true (Or.inr (Or.inl h15)); refine ⟨?_, rfl⟩; rw [hb]; rfl)
              | (have hb : rowB w = true := decide_eq_true (Or.inl h6); refine ⟨?_, rfl⟩; rw [hb]; rfl)
          · refine r_iload_n dX10_isRow_45 rfl (by rfl) ?_
            refine r_ldcS (i := 9) rfl dX10_isRow_46 ?_
            refine r_callS (n_of (i := 9) (by decide) (by decide)) ms_X10_of ml_X10_187 ⟨by decide, by decide⟩ dX10_isRow_48 rfl (Nat.le_of_ble_eq_true rfl) (fun v9 x9 h9 => ?_)
            obtain ⟨rfl, h9⟩ := h9
            refine PW.xeq h9 ?_
            clear h9 x9
            refine r_icmp_eqN (tgt := 63) dX10_isRow_51 (by decide) (by omega) (by omega) (fun h51 => ?_) (fun h51 => ?_)
            · refine r_iconst (v := nI 1) dX10_isRow_63 (by decide) ?_
              refine r_goto (tgt := 68) dX10_isRow_64 (by decide) ?_
              refine r_zret rfl (by first | exact bI_01 _ | exact Or.inl rfl | exact Or.inr rfl) dX10_isRow_68 ?_
              first
                | (have hb : rowB w = false := decide_eq_false (fun q => q.elim h6 (fun q => q.elim h15 (fun q => q.elim h24 (fun q => q.elim h33 (fun q => q.elim h42 (fun q => q.elim h51 h60)))))); refine ⟨?_, rfl⟩; rw [hb]; rfl)
                | (have hb : rowB w = true := decide_eq_true (Or.inr (Or.inr (Or.inr (Or.inr (Or.inr (Or.inr (h60))))))); refine ⟨?_, rfl⟩; rw [hb]; rfl)
                | (have hb : rowB w = true := decide_eq_true (Or.inr (Or.inr (Or.inr (Or.inr (Or.inr (Or.inl h51)))))); refine ⟨?_, rfl⟩; rw [hb]; rfl)
                | (have hb : rowB w = true := decide_eq_true (Or.inr (Or.inr (Or.inr (Or.inr (Or.inl h42))))); refine ⟨?_, rfl⟩; rw [hb]; rfl)
                | (have hb : rowB w = true := decide_eq_true (Or.inr (Or.inr (Or.inr (Or.inl h33)))); refine ⟨?_, rfl⟩; rw [hb]; rfl)
                | (have hb : rowB w = true := decide_eq_true (Or.inr (Or.inr (Or.inl h24))); refine ⟨?_, rfl⟩; rw [hb]; rfl)
                | (have hb : rowB w = true := decide_eq_true (Or.inr (Or.inl h15)); refine ⟨?_, rfl⟩; rw [hb]; rfl)
                | (have hb : rowB w = true := decide_eq_true (Or.inl h6); refine ⟨?_, rfl⟩; rw [hb]; rfl)
            · refine r_iload_n dX10_isRow_54 rfl (by rfl) ?_
              refine r_ldcS (i := 10) rfl dX10_isRow_55 ?_
              refine r_callS (n_of (i := 10) (by decide) (by decide)) ms_X10_of ml_X10_187 ⟨by decide, by decide⟩ dX10_isRow_57 rfl (Nat.le_of_ble_eq_true rfl) (fun v9 x9 h9 => ?_)
              obtain ⟨rfl, h9⟩ := h9
              refine PW.xeq h9 ?_
              clear h9 x9
              refine r_icmp_neN (tgt := 67) dX10_isRow_60 (by decide) (by omega) (by omega) (fun h60 => ?_) (fun h60 => ?_)
              · refine r_iconst (v := nI 0) dX10_isRow_67 (by decide) ?_
                refine r_zret rfl (by first | exact bI_01 _ | exact Or.inl rfl | exact Or.inr rfl) dX10_isRow_68 ?_
                first
                  | (have hb : rowB w = false := decide_eq_false (fun q => q.elim h6 (fun q => q.elim h15 (fun q => q.elim h24 (fun q => q.elim h33 (fun q => q.elim h42 (fun q => q.elim h51 h60)))))); refine ⟨?_, rfl⟩; rw [hb]; rfl)
                  | (have hb : rowB w = true := decide_eq_true (Or.inr (Or.inr (Or.inr (Or.inr (Or.inr (Or.inr (h60))))))); refine ⟨?_, rfl⟩; rw [hb]; rfl)
                  | (have hb : rowB w = true := decide_eq_true (Or.inr (Or.inr (Or.inr (Or.inr (Or.inr (Or.inl h51)))))); refine ⟨?_, rfl⟩; rw [hb]; rfl)
                  | (have hb : rowB w = true := decide_eq_true (Or.inr (Or.inr (Or.inr (Or.inr (Or.inl h42))))); refine ⟨?_, rfl⟩; rw [hb]; rfl)
                  | (have hb : rowB w = true := decide_eq_true (Or.inr (Or.inr (Or.inr (Or.inl h33)))); refine ⟨?_, rfl⟩; rw [hb]; rfl)
                  | (have hb : rowB w = true := decide_eq_true (Or.inr (Or.inr (Or.inl h24))); refine ⟨?_, rfl⟩; rw [hb]; rfl)
                  | (have hb : rowB w = true := decide_eq_true (Or.inr (Or.inl h15)); refine ⟨?_, rfl⟩; rw [hb]; rfl)
                  | (have hb : rowB w = true := decide_eq_true (Or.inl h6); refine ⟨?_, rfl⟩; rw [hb]; rfl)
              · refine r_iconst (v := nI 1) dX10_isRow_63 (by decide) ?_
                refine r_goto (tgt := 68) dX10_isRow_64 (by decide) ?_
                refine r_zret rfl (by first | exact bI_01 _ | exact Or.inl rfl | exact Or.inr rfl) dX10_isRow_68 ?_
                first
                  | (have hb : rowB w = false := decide_eq_false (fun q => q.elim h6 (fun q => q.elim h15 (fun q => q.elim h24 (fun q => q.elim h33 (fun q => q.elim h42 (fun q => q.elim h51 h60)))))); refine ⟨?_, rfl⟩; rw [hb]; rfl)
                  | (have hb : rowB w = true := decide_eq_true (Or.inr (Or.inr (Or.inr (Or.inr (Or.inr (Or.inr (h60))))))); refine ⟨?_, rfl⟩; rw [hb]; rfl)
                  | (have hb : rowB w = true := decide_eq_true (Or.inr (Or.inr (Or.inr (Or.inr (Or.inr (Or.inl h51)))))); refine ⟨?_, rfl⟩; rw [hb]; rfl)
                  | (have hb : rowB w = true := decide_eq_true (Or.inr (Or.inr (Or.inr (Or.inr (Or.inl h42))))); refine ⟨?_, rfl⟩; rw [hb]; rfl)
                  | (have hb : rowB w = true := decide_eq_true (Or.inr (Or.inr (Or.inr (Or.inl h33)))); refine ⟨?_, rfl⟩; rw [hb]; rfl)
                  | (have hb : rowB w = true := decide_eq_true (Or.inr (Or.inr (Or.inl h24))); refine ⟨?_, rfl⟩; rw [hb]; rfl)
                  | (have hb : rowB w = true := decide_eq_true (Or.inr (Or.inl h15)); refine ⟨?_, rfl⟩; rw [hb]; rfl)
                  | (have hb : rowB w = true := decide_eq_true (Or.inl h6); refine ⟨?_, rfl⟩; rw [hb]; rfl)
set_option maxRecDepth 100000 in
theorem w0_wine (g : Nat → Nat) (len a : Nat) : (wdN g len a = ofW 4) ↔ isW g 0 (skip g len a) (smE g len (skip g len a)) 8 12 = true := wd_is (by decide) (by decide) (by decide +kernel) (by decide +kernel)
set_option maxRecDepth 100000 in
theorem w0_cold (g : Nat → Nat) (len a : Nat) : (wdN g len a = ofW 5) ↔ isW g 0 (skip g len a) (smE g len (skip g len a)) 13 17 = true := wd_is (by decide) (by decide) (by decide +kernel) (by decide +kernel)
set_option maxRecDepth 100000 in
theorem w0_plug (g : Nat → Nat) (len a : Nat) : (wdN g len a = ofW 6) ↔ isW g 0 (skip g len a) (smE g len (skip g len a)) 18 22 = true := wd_is (by decide) (by decide) (by decide +kernel) (by decide +kernel)
set_option maxRecDepth 100000 in
theorem w0_owes (g : Nat → Nat) (len a : Nat) : (wdN g len a = ofW 7) ↔ isW g 0 (skip g len a) (smE g len (skip g len a)) 23 27 = true := wd_is (by decide) (by decide) (by decide +kernel) (by decide +kernel)
set_option maxRecDepth 100000 in
theorem w0_wall (g : Nat → Nat) (len a : Nat) : (wdN g len a = ofW 8) ↔ isW g 0 (skip g len a) (smE g len (skip g len a)) 28 32 = true := wd_is (by decide) (by decide) (by decide +kernel) (by decide +kernel)
set_option maxRecDepth 100000 in
theorem w0_over (g : Nat → Nat) (len a : Nat) : (wdN g len a = ofW 9) ↔ isW g 0 (skip g len a) (smE g len (skip g len a)) 33 37 = true := wd_is (by decide) (by decide) (by decide +kernel) (by decide +kernel)
set_option maxRecDepth 100000 in
theorem w0_clock (g : Nat → Nat) (len a : Nat) : (wdN g len a = ofW 10) ↔ isW g 0 (skip g len a) (smE g len (skip g len a)) 38 43 = true := wd_is (by decide) (by decide) (by decide +kernel) (by decide +kernel)
/-- the word that stands here is 'sleeper' -/
def slB (g : Nat → Nat) (len a : Nat) : Bool := isW g 0 (skip g len a) (smE g len (skip g len a)) 0 7
set_option maxRecDepth 100000 in
theorem sl_s : strN.getD 3 0 = 7 ∧ ∀ k, k < 7 → chN 3 k = chN 0 (0 + k) ∧ 97 ≤ chN 3 k ∧ chN 3 k ≤ 122 := by decide +kernel
theorem sl_t {g : Nat → Nat} {len a : Nat} (h : slB g len a = true) : smE g len (skip g len a) = skip g len a + 7 ∧ ∀ k, k < 7 → chN 3 k = g (skip g len a + k) := by
  unfold slB isW at h
  rw [Bool.and_eq_true, decide_eq_true_eq, decide_eq_true_eq] at h
  have := smE_ge g len (skip g len a)
  exact ⟨by omega, fun k hk => ((sl_s.2 k hk).1).trans (h.2 k hk)⟩
theorem sl_f {g : Nat → Nat} {len a : Nat} (h1 : smE g len (skip g len a) = skip g len a + 7) (h2 : ∀ k, k < 7 → g (skip g len a + k) = chN 3 k) : slB g len a = true := by
  unfold slB isW
  rw [Bool.and_eq_true, decide_eq_true_eq, decide_eq_true_eq]
  exact ⟨by omega, fun k hk => ((sl_s.2 k hk).1).symm.trans (h2 k hk).symm⟩
set_option maxHeartbeats 8000000 in
set_option maxRecDepth 20000 in
theorem n_stands {g : Nat → Nat} {len a : Nat} {x : XS} (hS : RPs x g len a) : MM mX10_standsHere 4 0 0 [.ref 137, .ref 1003] x (fun v y => v = some (.int (bI (slB g len a))) ∧ y = gdX x (skip g len a)) NoT := by
  refine MM.of (by decide) (Nat.le_of_ble_eq_true rfl) ?_
  have y137 := lay_137
  have y139 := lay_139
  obtain ⟨_, hl, ha, hal, hg⟩ := id hS
  have hk8 := skip_le (g := g) hS.2.2.2.1
  refine r_aload_n dX10_standsHere_0 rfl (by rfl) ?_
  refine r_callV (n_here hS) mv_X10_here ml_X10_113 ⟨by decide, by decide⟩ dX10_standsHere_1 (by first | assumption | rfl) rfl rfl rfl (Nat.le_of_ble_eq_true rfl) (fun v9 x9 h9 => ?_)
  obtain ⟨rfl, h9⟩ := h9
  refine PW.xeq h9 ?_
  clear h9 x9
  refine r_pop dX10_standsHere_4 rfl ?_
  refine r_iconst (v := nI 0) dX10_standsHere_5 (by decide) ?_
  refine r_istore_n dX10_standsHere_6 rfl (by decide) ?_
  refine PW.loop (σ := Nat) (fun k => 7 - k) (fun k => k ≤ 7 ∧ ∀ j, j < k → (skip g len a) + j < len ∧ g ((skip g len a) + j) = chN 3 j) (fun k => [(0, .ref 137), (1, .ref 1003), (2, .int (nI k))]) (fun _ => gdX x (skip g len a)) (0) (⟨Nat.zero_le _, fun j hj => absurd hj (Nat.not_lt_zero _)⟩) rfl rfl (fun k hk kh => ?_)
  obtain ⟨hk1, hr⟩ := hk
  refine r_iload_n dX10_standsHere_7 rfl (by rfl) ?_
  refine r_aload_n dX10_standsHere_8 rfl (by rfl) ?_
  refine r_callVX (i9 := 3) (c_length (by decide)) mv_J0_length_8abf5 ml_X10_121 ⟨by decide, by decide⟩ dX10_standsHere_9 (by decide) rfl rfl (Nat.le_of_ble_eq_true rfl) (fun v9 x9 h9 => ?_)
  obtain ⟨rfl, h9⟩ := h9
  refine PW.xeq h9 ?_
  clear h9 x9
  refine PW.topi (show _ = nI 7 from congrArg nI sl_s.1) ?_
  refine r_icmp_geN (tgt := 55) dX10_standsHere_12 (by decide) (by omega) (by omega) (fun h12 => ?_) (fun h12 => ?_)
  · refine r_aload_n dX10_standsHere_55 rfl (by rfl) ?_
    refine gf_X10_107 rfl dX10_standsHere_56 (by first | assumption | rfl) (by rfl) ?_
    refine PW.topi (show _ = nI (skip g len a) from xu_s) ?_
    refine r_aload_n dX10_standsHere_59 rfl (by rfl) ?_
    refine r_callVX (i9 := 3) (c_length (by decide)) mv_J0_length_8abf5 ml_X10_121 ⟨by decide, by decide⟩ dX10_standsHere_60 (by decide) rfl rfl (Nat.le_of_ble_eq_true rfl) (fun v9 x9 h9 => ?_)
    obtain ⟨rfl, h9⟩ := h9
    refine PW.xeq h9 ?_
    clear h9 x9
    refine PW.topi (show _ = nI 7 from congrArg nI sl_s.1) ?_
    refine r_iaddN dX10_standsHere_63 ?_
    refine r_aload_n dX10_standsHere_64 rfl (by rfl) ?_
    refine gf_X10_110 rfl dX10_standsHere_65 (by first | assumption | rfl) (by rfl) ?_
    refine PW.topi (show _ = nI len from hS.1) ?_
    refine r_icmp_geN (tgt := 91) dX10_standsHere_68 (by decide) (by omega) (by omega) (fun h68 => ?_) (fun h68 => ?_)
    · refine r_iconst (v := nI 1) dX10_standsHere_91 (by decide) ?_
      refine r_goto (tgt := 96) dX10_standsHere_92 (by decide) ?_
      refine r_zret rfl (by first | exact bI_01 _ | exact Or.inl rfl | exact Or.inr rfl) dX10_standsHere_96 ?_
      have hk7 : k = 7 := by omega
      subst hk7
      have hR : smE g len (skip g len a) = smE g len ((skip g len a) + 7) := smE_run 7 (fun j hj => ⟨(hr j hj).1, small_iff.mpr (by rw [(hr j hj).2]; exact (sl_s.2 j hj).2)⟩)
      first
        | (have hF : slB g len a = true := sl_f (hR.trans (smE_e (fun q => by omega))) (fun j hj => (hr j hj).2)
           refine ⟨?_, rfl⟩
           rw [hF]
           rfl)
        | (have hF : slB g len a = true := sl_f (hR.trans (smE_e (fun q => by rw [h88] at q; exact absurd q.2 (by decide)))) (fun j hj => (hr j hj).2)
           refine ⟨?_, rfl⟩
           rw [hF]
           rfl)
        | (have hF : slB g len a = false := Bool.eq_false_iff.mpr (fun q => by
             have q1 := (sl_t q).1
             have q2 := smE_s (g := g) (len := len) (a := (skip g len a) + 7) (by omega) h88
             have q3 := smE_ge g len ((skip g len a) + 7 + 1)
             omega)
           refine ⟨?_, rfl⟩
           rw [hF]
           rfl)
    · refine r_aload_n dX10_standsHere_71 rfl (by rfl) ?_
      refine gf_X10_20 rfl dX10_standsHere_72 (by first | assumption | rfl) (by rfl) ?_
      refine r_aload_n dX10_standsHere_75 rfl (by rfl) ?_
      refine gf_X10_107 rfl dX10_standsHere_76 (by first | assumption | rfl) (by rfl) ?_
      refine PW.topi (show _ = nI (skip g len a) from xu_s) ?_
      refine r_aload_n dX10_standsHere_79 rfl (by rfl) ?_
      refine r_callVX (i9 := 3) (c_length (by decide)) mv_J0_length_8abf5 ml_X10_121 ⟨by decide, by decide⟩ dX10_standsHere_80 (by decide) rfl rfl (Nat.le_of_ble_eq_true rfl) (fun v9 x9 h9 => ?_)
      obtain ⟨rfl, h9⟩ := h9
      refine PW.xeq h9 ?_
      clear h9 x9
      refine PW.topi (show _ = nI 7 from congrArg nI sl_s.1) ?_
      refine r_iaddN dX10_standsHere_83 ?_
      refine r_ialdN dX10_standsHere_84 (by first | assumption | rfl) (by omega) (by decide) ?_
      refine PW.topi (show _ = nI (g ((skip g len a) + 7)) from (hg ((skip g len a) + 7) (by omega)).1) ?_
      have hg9 := (hg ((skip g len a) + 7) (by omega)).2
      refine r_callS (n_isSmall hg9) ms_X10_isSmall ml_X10_117 ⟨by decide, by decide⟩ dX10_standsHere_85 rfl (Nat.le_of_ble_eq_true rfl) (fun v9 x9 h9 => ?_)
      obtain ⟨rfl, h9⟩ := h9
      refine PW.xeq h9 ?_
      clear h9 x9
      refine r_if_neB (tgt := 95) dX10_standsHere_88 (by decide) (fun h88 => ?_) (fun h88 => ?_)
      · refine r_iconst (v := nI 0) dX10_standsHere_95 (by decide) ?_
        refine r_zret rfl (by first | exact bI_01 _ | exact Or.inl rfl | exact Or.inr rfl) dX10_standsHere_96 ?_
        have hk7 : k = 7 := by omega
        subst hk7
        have hR : smE g len (skip g len a) = smE g len ((skip g len a) + 7) := smE_run 7 (fun j hj => ⟨(hr j hj).1, small_iff.mpr (by rw [(hr j hj).2]; exact (sl_s.2 j hj).2)⟩)
        first
          | (have hF : slB g len a = true := sl_f (hR.trans (smE_e (fun q => by omega))) (fun j hj => (hr j hj).2)
             refine ⟨?_, rfl⟩
             rw [hF]
             rfl)
          | (have hF : slB g len a = true := sl_f (hR.trans (smE_e (fun q => by rw [h88] at q; exact absurd q.2 (by decide)))) (fun j hj => (hr j hj).2)
             refine ⟨?_, rfl⟩
             rw [hF]
             rfl)
          | (have hF : slB g len a = false := Bool.eq_false_iff.mpr (fun q => by
               have q1 := (sl_t q).1
               have q2 := smE_s (g := g) (len := len) (a := (skip g len a) + 7) (by omega) h88
               have q3 := smE_ge g len ((skip g len a) + 7 + 1)
               omega)
             refine ⟨?_, rfl⟩
             rw [hF]
             rfl)
      · refine r_iconst (v := nI 1) dX10_standsHere_91 (by decide) ?_
        refine r_goto (tgt := 96) dX10_standsHere_92 (by decide) ?_
        refine r_zret rfl (by first | exact bI_01 _ | exact Or.inl rfl | exact Or.inr rfl) dX10_standsHere_96 ?_
        have hk7 : k = 7 := by omega
        subst hk7
        have hR : smE g len (skip g len a) = smE g len ((skip g len a) + 7) := smE_run 7 (fun j hj => ⟨(hr j hj).1, small_iff.mpr (by rw [(hr j hj).2]; exact (sl_s.2 j hj).2)⟩)
        first
          | (have hF : slB g len a = true := sl_f (hR.trans (smE_e (fun q => by omega))) (fun j hj => (hr j hj).2)
             refine ⟨?_, rfl⟩
             rw [hF]
             rfl)
          | (have hF : slB g len a = true := sl_f (hR.trans (smE_e (fun q => by rw [h88] at q; exact absurd q.2 (by decide)))) (fun j hj => (hr j hj).2)
             refine ⟨?_, rfl⟩
             rw [hF]
             rfl)
          | (have hF : slB g len a = false := Bool.eq_false_iff.mpr (fun q => by
               have q1 := (sl_t q).1
               have q2 := smE_s (g := g) (len := len) (a := (skip g len a) + 7) (by omega) h88
               have q3 := smE_ge g len ((skip g len a) + 7 + 1)
               omega)
             refine ⟨?_, rfl⟩
             rw [hF]
             rfl)
  · refine r_aload_n dX10_standsHere_15 rfl (by rfl) ?_
    refine gf_X10_107 rfl dX10_standsHere_16 (by first | assumption | rfl) (by rfl) ?_
    refine PW.topi (show _ = nI (skip g len a) from xu_s) ?_
    refine r_iload_n dX10_standsHere_19 rfl (by rfl) ?_
    refine r_iaddN dX10_standsHere_20 ?_
    refine r_aload_n dX10_standsHere_21 rfl (by rfl) ?_
    refine gf_X10_110 rfl dX10_standsHere_22 (by first | assumption | rfl) (by rfl) ?_
    refine PW.topi (show _ = nI len from hS.1) ?_
    refine r_icmp_geN (tgt := 47) dX10_standsHere_25 (by decide) (by omega) (by omega) (fun h25 => ?_) (fun h25 => ?_)
    · refine r_iconst (v := nI 0) dX10_standsHere_47 (by decide) ?_
      refine r_zret rfl (by first | exact bI_01 _ | exact Or.inl rfl | exact Or.inr rfl) dX10_standsHere_48 ?_
      have hF : slB g len a = false := Bool.eq_false_iff.mpr (fun q => by
        obtain ⟨q1, q2⟩ := sl_t q
        have q3 := q2 k (by omega)
        first
          | (exact h44 q3.symm)
          | (have q4 := smE_le (g := g) hk8; omega))
      refine ⟨?_, rfl⟩
      rw [hF]
      rfl
    · refine r_aload_n dX10_standsHere_28 rfl (by rfl) ?_
      refine gf_X10_20 rfl dX10_standsHere_29 (by first | assumption | rfl) (by rfl) ?_
      refine r_aload_n dX10_standsHere_32 rfl (by rfl) ?_
      refine gf_X10_107 rfl dX10_standsHere_33 (by first | assumption | rfl) (by rfl) ?_
      refine PW.topi (show _ = nI (skip g len a) from xu_s) ?_
      refine r_iload_n dX10_standsHere_36 rfl (by rfl) ?_
      refine r_iaddN dX10_standsHere_37 ?_
      refine r_ialdN dX10_standsHere_38 (by first | assumption | rfl) (by omega) (by decide) ?_
      refine PW.topi (show _ = nI (g ((skip g len a) + k)) from (hg ((skip g len a) + k) (by omega)).1) ?_
      have hg9 := (hg ((skip g len a) + k) (by omega)).2
      refine r_aload_n dX10_standsHere_39 rfl (by rfl) ?_
      refine r_iload_n dX10_standsHere_40 rfl (by rfl) ?_
      have hfk : k < strN.getD 3 0 := by rw [sl_s.1]; omega
      refine r_callVX (i9 := 3) (c_charAt (by decide) hfk) mv_J0_charAt_5068e ml_X10_126 ⟨by decide, by decide⟩ dX10_standsHere_41 (by decide) rfl rfl (Nat.le_of_ble_eq_true rfl) (fun v9 x9 h9 => ?_)
      obtain ⟨rfl, h9⟩ := h9
      refine PW.xeq h9 ?_
      clear h9 x9
      refine PW.topi (chN_ok 3 (by decide) k hfk).1 ?_
      have hc9 := (sl_s.2 k (by omega)).2
      refine r_icmp_eqN (tgt := 49) dX10_standsHere_44 (by decide) (by omega) (by omega) (fun h44 => ?_) (fun h44 => ?_)
      · refine r_iincN dX10_standsHere_49 (by rfl) (by decide) ?_
        refine r_goto (tgt := 7) dX10_standsHere_52 (by decide) ?_
        exact PW.lc (by rfl) rfl (kh (k + 1) ⟨by omega, fun j hj => by
          by_cases e : j = k
          · subst e; exact ⟨by omega, h44⟩
          · exact hr j (by omega)⟩ (by omega))
      · refine r_iconst (v := nI 0) dX10_standsHere_47 (by decide) ?_
        refine r_zret rfl (by first | exact bI_01 _ | exact Or.inl rfl | exact Or.inr rfl) dX10_standsHere_48 ?_
        have hF : slB g len a = false := Bool.eq_false_iff.mpr (fun q => by
          obtain ⟨q1, q2⟩ := sl_t q
          have q3 := q2 k (by omega)
          first
            | (exact h44 q3.symm)
            | (have q4 := smE_le (g := g) hk8; omega))
        refine ⟨?_, rfl⟩
        rw [hF]
        rfl
