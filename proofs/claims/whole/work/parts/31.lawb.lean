/-! A LAW'S TEXT: units -/
theorem pNamed_skip (g : Nat → Nat) (len : Nat) (s : Option (Nat → LR)) (a : Nat) : pNamed g len s (skip g len a) = pNamed g len s a := by unfold pNamed; rw [pWord_skip, skip_skip]
/-- what a reader may lean on for what stands in brackets -/
def BR (g : Nat → Nat) (len d op : Nat) (s : Option (Nat → LR)) : Prop := (s = none ∧ 6 ≤ op) ∨ ∃ F, s = some F ∧ op < 6 ∧ LPc g len mX5_readSum d (op + 1) F ∧ LenOK len F
set_option maxHeartbeats 8000000 in
set_option maxRecDepth 20000 in
theorem c_X5_readNamed {g : Nat → Nat} {len d op a sz : Nat} {s : Option (Nat → LR)} {x : XS} (hl : len ≤ 150) (hop : op ≤ 6) (hs : BR g len d op s) (hd : 5 ≤ d) (hT : TP x g len a) (hz : x 30 1 = nI sz) (hsz : sz ≤ a) : MM mX5_readNamed (d + 1) 0 0 [.ref 30, .ref 1, .int (nI op)] x (LPq g len (pNamed g len s) a sz x) NoT := by
  refine MM.of (by decide) (Nat.le_of_ble_eq_true rfl) ?_
  have y1 := lay_1
  have y2 := lay_2
  have y30 := lay_30
  have y31 := lay_31
  refine r_aload_n dX5_readNamed_0 rfl (by rfl) ?_
  refine r_ldcS (i := 1) rfl dX5_readNamed_1 ?_
  refine r_callV (c_X8_word (i := 1) hT (by decide)) mv_X8_word ml_X5_81 ⟨by omega, by decide⟩ dX5_readNamed_3 (by first | assumption | rfl) rfl rfl rfl (Nat.le_of_ble_eq_true rfl) (fun v9 x9 h9 => ?_)
  obtain ⟨rfl, h9⟩ := h9
  obtain ⟨v9, f1, e9, q1, b1⟩ := word_rel (x := x) (i := 1) hT
  refine PW.topi v9 ?_
  refine PW.xeq (h9.trans e9) ?_
  clear h9 x9 v9 e9
  refine r_istore_n dX5_readNamed_6 rfl (by decide) ?_
  refine r_iload_n dX5_readNamed_7 rfl (by rfl) ?_
  refine r_iconst (v := -1) dX5_readNamed_8 (by decide) ?_
  refine r_icmp_ne (tgt := 14) dX5_readNamed_9 (by decide) (fun h9 => ?_) (fun h9 => ?_)
  · obtain ⟨w, hw1, hw2⟩ := pWord_ne h9
    rw [show pI (pWord g len 1 a) = nI w by rw [hw2]; rfl]
    have hw11 := w1_lt hw1
    have hge := (pWord1_ge hw2).1
    have T1 : TP (xr x 1 f1) g len (smE g len (skip g len a)) := q1.tp hT hw2
    have A1 : AC SL x (xr x 1 f1) := AC.rfl.pf q1 hw2
    have hge2 : a + 1 ≤ smE g len (skip g len a) := hge
    have hle := T1.2.2.2.1
    refine r_iload_n dX5_readNamed_14 rfl (by rfl) ?_
    refine r_bipush (v := nI 9) dX5_readNamed_15 (by decide) ?_
    refine r_icmp_geN (tgt := 31) dX5_readNamed_17 (by decide) (by omega) (by omega) (fun h17 => ?_) (fun h17 => ?_)
    · refine r_iload_n dX5_readNamed_31 rfl (by rfl) ?_
      refine r_bipush (v := nI 6) dX5_readNamed_32 (by decide) ?_
      refine r_icmp_ltN (tgt := 47) dX5_readNamed_34 (by decide) (by omega) (by omega) (fun h34 => ?_) (fun h34 => ?_)
      · obtain ⟨F, rfl, _, hF, hLen⟩ : ∃ F, s = some F ∧ op < 6 ∧ LPc g len mX5_readSum d (op + 1) F ∧ LenOK len F := by
          rcases hs with q | q
          · exact absurd q.2 (by omega)
          · exact q
        refine r_aload_n dX5_readNamed_47 rfl (by rfl) ?_
        refine r_bipush (v := nI 91) dX5_readNamed_48 (by decide) ?_
        refine r_callV (c_X8_take T1) mv_X8_take ml_X5_55 ⟨by omega, by decide⟩ dX5_readNamed_50 (by first | assumption | rfl) rfl rfl rfl (Nat.le_of_ble_eq_true rfl) (fun v9 x9 h9 => ?_)
        obtain ⟨rfl, h9⟩ := h9
        obtain ⟨v9, f2, e9, q2⟩ := tak_rel (x := (xr x 1 f1)) (c := 91) T1
        have q2 := q2 (by decide +kernel)
        refine PW.topi (congrArg bI v9) ?_
        refine PW.xeq (h9.trans e9) ?_
        clear h9 x9 v9 e9
        refine r_if_eqB (tgt := 67) dX5_readNamed_53 (by decide) (fun h53 => ?_) (fun h53 => ?_)
        · refine r_iconst (v := nI 0) dX5_readNamed_67 (by decide) ?_
          refine r_zret rfl (by first | exact bI_01 _ | exact Or.inl rfl | exact Or.inr rfl) dX5_readNamed_68 ?_
          first
            | (obtain ⟨er, e2⟩ := okB_f h53
               have w : pNamed g len (some F) a = .error er := by
                 unfold pNamed
                 rw [hw2, xbn_ok]
                 show (if w < 9 then _ else _) = _
                 rw [if_neg (by omega)]
                 show xbn (pTake g len 91 _) _ = _
                 rw [e2, xbn_err]
               exact ⟨by rw [w]; rfl, A1.err q2 e2 w, fun q hq => by rw [w] at hq; cases hq⟩)
            | (obtain ⟨er, e3⟩ := okB_f h64
               have w : pNamed g len (some F) a = .error er := by
                 unfold pNamed
                 rw [hw2, xbn_ok]
                 show (if w < 9 then _ else _) = _
                 rw [if_neg (by omega)]
                 show xbn (pTake g len 91 _) _ = _
                 rw [e2, xbn_ok, e3, xbn_err]
               exact ⟨by rw [w]; rfl, A2.perr h3.1 e3 w, fun q hq => by rw [w] at hq; cases hq⟩)
        · obtain ⟨a1, e2⟩ := okB_t h53
          have T2 : TP (xr (xr x 1 f1) 1 f2) g len a1 := q2.tp T1 e2
          have A2 : AC SL x (xr (xr x 1 f1) 1 f2) := A1.pf q2 e2
          have g2 := (pTake_ge e2).1
          refine r_aload_n dX5_readNamed_56 rfl (by rfl) ?_
          refine r_aload_n dX5_readNamed_57 rfl (by rfl) ?_
          refine r_iload_n dX5_readNamed_58 rfl (by rfl) ?_
          refine r_iconst (v := nI 1) dX5_readNamed_59 (by decide) ?_
          refine r_iaddN dX5_readNamed_60 ?_
          refine r_callV (hF a1 sz (xr (xr x 1 f1) 1 f2) T2 hz (by omega)) mv_X5_readSum ml_X5_38 ⟨by omega, by decide⟩ dX5_readNamed_61 (by first | assumption | rfl) rfl rfl rfl (Nat.le_of_ble_eq_true rfl) (fun v9 x3 h3 => ?_)
          obtain ⟨rfl, h3⟩ := h3
          refine r_if_neB (tgt := 69) dX5_readNamed_64 (by decide) (fun h64 => ?_) (fun h64 => ?_)
          · obtain ⟨r3, e3⟩ := okB_t h64
            have T3 := (h3.1.ok e3).1
            have A3 := A2.of h3.1 e3
            obtain ⟨z3, k3⟩ := h3.2 r3 e3
            have g3 := hLen _ _ e3
            refine r_aload_n dX5_readNamed_69 rfl (by rfl) ?_
            refine r_bipush (v := nI 44) dX5_readNamed_70 (by decide) ?_
            refine r_callV (c_X8_take T3) mv_X8_take ml_X5_55 ⟨by omega, by decide⟩ dX5_readNamed_72 (by first | assumption | rfl) rfl rfl rfl (Nat.le_of_ble_eq_true rfl) (fun v9 x9 h9 => ?_)
            obtain ⟨rfl, h9⟩ := h9
            obtain ⟨v9, f4, e9, q4⟩ := tak_rel (x := x3) (c := 44) T3
            have q4 := q4 (by decide +kernel)
            refine PW.topi (congrArg bI v9) ?_
            refine PW.xeq (h9.trans e9) ?_
            clear h9 x9 v9 e9
            refine r_if_eqB (tgt := 98) dX5_readNamed_75 (by decide) (fun h75 => ?_) (fun h75 => ?_)
            · refine r_iconst (v := nI 0) dX5_readNamed_98 (by decide) ?_
              refine r_zret rfl (by first | exact bI_01 _ | exact Or.inl rfl | exact Or.inr rfl) dX5_readNamed_99 ?_
              first
                | (obtain ⟨er, e4⟩ := okB_f h75
                   have w : pNamed g len (some F) a = .error er := by
                     unfold pNamed
                     rw [hw2, xbn_ok]
                     show (if w < 9 then _ else _) = _
                     rw [if_neg (by omega)]
                     show xbn (pTake g len 91 _) _ = _
                     rw [e2, xbn_ok, e3, xbn_ok, e4, xbn_err]
                   exact ⟨by rw [w]; rfl, A3.err q4 e4 w, fun q hq => by rw [w] at hq; cases hq⟩)
                | (obtain ⟨er, e5⟩ := okB_f h86
                   have w : pNamed g len (some F) a = .error er := by
                     unfold pNamed
                     rw [hw2, xbn_ok]
                     show (if w < 9 then _ else _) = _
                     rw [if_neg (by omega)]
                     show xbn (pTake g len 91 _) _ = _
                     rw [e2, xbn_ok, e3, xbn_ok, e4, xbn_ok, e5, xbn_err]
                   exact ⟨by rw [w]; rfl, A4.perr h5.1 e5 w, fun q hq => by rw [w] at hq; cases hq⟩)
                | (obtain ⟨er, e6⟩ := okB_f h95
                   have w : pNamed g len (some F) a = .error er := by
                     unfold pNamed
                     rw [hw2, xbn_ok]
                     show (if w < 9 then _ else _) = _
                     rw [if_neg (by omega)]
                     show xbn (pTake g len 91 _) _ = _
                     rw [e2, xbn_ok, e3, xbn_ok, e4, xbn_ok, e5, xbn_ok, e6, xbn_err]
                   exact ⟨by rw [w]; rfl, A5.err q6 e6 w, fun q hq => by rw [w] at hq; cases hq⟩)
            · obtain ⟨a2, e4⟩ := okB_t h75
              have T4 : TP (xr x3 1 f4) g len a2 := q4.tp T3 e4
              have A4 : AC SL x (xr x3 1 f4) := A3.pf q4 e4
              have g4 := (pTake_ge e4).1
              refine r_aload_n dX5_readNamed_78 rfl (by rfl) ?_
              refine r_aload_n dX5_readNamed_79 rfl (by rfl) ?_
              refine r_iload_n dX5_readNamed_80 rfl (by rfl) ?_
              refine r_iconst (v := nI 1) dX5_readNamed_81 (by decide) ?_
              refine r_iaddN dX5_readNamed_82 ?_
              refine r_callV (hF a2 (sz + r3.1.length) (xr x3 1 f4) T4 z3 (by omega)) mv_X5_readSum ml_X5_38 ⟨by omega, by decide⟩ dX5_readNamed_83 (by first | assumption | rfl) rfl rfl rfl (Nat.le_of_ble_eq_true rfl) (fun v9 x5 h5 => ?_)
              obtain ⟨rfl, h5⟩ := h5
              refine r_if_eqB (tgt := 98) dX5_readNamed_86 (by decide) (fun h86 => ?_) (fun h86 => ?_)
              · refine r_iconst (v := nI 0) dX5_readNamed_98 (by decide) ?_
                refine r_zret rfl (by first | exact bI_01 _ | exact Or.inl rfl | exact Or.inr rfl) dX5_readNamed_99 ?_
                first
                  | (obtain ⟨er, e4⟩ := okB_f h75
                     have w : pNamed g len (some F) a = .error er := by
                       unfold pNamed
                       rw [hw2, xbn_ok]
                       show (if w < 9 then _ else _) = _
                       rw [if_neg (by omega)]
                       show xbn (pTake g len 91 _) _ = _
                       rw [e2, xbn_ok, e3, xbn_ok, e4, xbn_err]
                     exact ⟨by rw [w]; rfl, A3.err q4 e4 w, fun q hq => by rw [w] at hq; cases hq⟩)
                  | (obtain ⟨er, e5⟩ := okB_f h86
                     have w : pNamed g len (some F) a = .error er := by
                       unfold pNamed
                       rw [hw2, xbn_ok]
                       show (if w < 9 then _ else _) = _
                       rw [if_neg (by omega)]
                       show xbn (pTake g len 91 _) _ = _
                       rw [e2, xbn_ok, e3, xbn_ok, e4, xbn_ok, e5, xbn_err]
                     exact ⟨by rw [w]; rfl, A4.perr h5.1 e5 w, fun q hq => by rw [w] at hq; cases hq⟩)
                  | (obtain ⟨er, e6⟩ := okB_f h95
                     have w : pNamed g len (some F) a = .error er := by
                       unfold pNamed
                       rw [hw2, xbn_ok]
                       show (if w < 9 then _ else _) = _
                       rw [if_neg (by omega)]
                       show xbn (pTake g len 91 _) _ = _
                       rw [e2, xbn_ok, e3, xbn_ok, e4, xbn_ok, e5, xbn_ok, e6, xbn_err]
                     exact ⟨by rw [w]; rfl, A5.err q6 e6 w, fun q hq => by rw [w] at hq; cases hq⟩)
              · obtain ⟨r5, e5⟩ := okB_t h86
                have T5 := (h5.1.ok e5).1
                have A5 := A4.of h5.1 e5
                obtain ⟨z5, k5⟩ := h5.2 r5 e5
                have g5 := hLen _ _ e5
                refine r_aload_n dX5_readNamed_89 rfl (by rfl) ?_
                refine r_bipush (v := nI 93) dX5_readNamed_90 (by decide) ?_
                refine r_callV (c_X8_take T5) mv_X8_take ml_X5_55 ⟨by omega, by decide⟩ dX5_readNamed_92 (by first | assumption | rfl) rfl rfl rfl (Nat.le_of_ble_eq_true rfl) (fun v9 x9 h9 => ?_)
                obtain ⟨rfl, h9⟩ := h9
                obtain ⟨v9, f6, e9, q6⟩ := tak_rel (x := x5) (c := 93) T5
                have q6 := q6 (by decide +kernel)
                refine PW.topi (congrArg bI v9) ?_
                refine PW.xeq (h9.trans e9) ?_
                clear h9 x9 v9 e9
                refine r_if_neB (tgt := 100) dX5_readNamed_95 (by decide) (fun h95 => ?_) (fun h95 => ?_)
                · obtain ⟨a3, e6⟩ := okB_t h95
                  have T6 : TP (xr x5 1 f6) g len a3 := q6.tp T5 e6
                  have A6 : AC SL x (xr x5 1 f6) := A5.pf q6 e6
                  have g6 := (pTake_ge e6).1
                  have g7 := T6.2.2.2.1
                  refine r_aload_n dX5_readNamed_100 rfl (by rfl) ?_
                  refine r_iload_n dX5_readNamed_101 rfl (by rfl) ?_
                  refine r_bipush (v := nI 9) dX5_readNamed_102 (by decide) ?_
                  refine r_icmp_neN (tgt := 113) dX5_readNamed_104 (by decide) (by omega) (by omega) (fun h104 => ?_) (fun h104 => ?_)
                  · refine r_sipush (v := nI 2005) dX5_readNamed_113 (by decide) ?_
                    refine r_callV (c_X5_put (x := (xr x5 1 f6)) z5 (by omega)) mv_X5_put ml_X5_59 ⟨by omega, by decide⟩ dX5_readNamed_116 (by first | assumption | rfl) rfl rfl rfl (Nat.le_of_ble_eq_true rfl) (fun v9 x9 h9 => ?_)
                    obtain ⟨rfl, h9⟩ := h9
                    refine PW.xeq h9 ?_
                    clear h9 x9
                    refine r_iconst (v := nI 1) dX5_readNamed_119 (by decide) ?_
                    refine r_zret rfl (by first | exact bI_01 _ | exact Or.inl rfl | exact Or.inr rfl) dX5_readNamed_120 ?_
                    first
                      | (have w : pNamed g len (some F) a = .ok ((r3.1 ++ r5.1 ++ [2004]), a3) := by
                           unfold pNamed
                           rw [hw2, xbn_ok]
                           show (if w < 9 then _ else _) = _
                           rw [if_neg (by omega)]
                           show xbn (pTake g len 91 _) _ = _
                           rw [e2, xbn_ok, e3, xbn_ok, e4, xbn_ok, e5, xbn_ok, e6, xbn_ok]
                           show Except.ok (r3.1 ++ r5.1 ++ [if w = 9 then 2004 else 2005], a3) = _
                           rw [if_pos h104]
                         refine ⟨by rw [w]; rfl, ((A6.puts (SL_ (by decide) (by decide)) (by decide)).puts (SL_ (by decide) (by decide)) (by decide)).fin (q := ((r3.1 ++ r5.1 ++ [2004]), a3)) (show TP _ g len a3 from T6) w, fun q hq => ?_⟩
                         rw [w] at hq
                         injection hq with hq
                         subst hq
                         refine ⟨(show nI _ = nI _ by congr 1; show _ = sz + (r3.1 ++ r5.1 ++ [2004]).length; rw [List.length_append, List.length_append, List.length_singleton]; omega), ?_⟩
                         show upd (x5 31) (sz + r3.1.length + r5.1.length) (nI 2004) = wrL (x 31) sz (r3.1 ++ r5.1 ++ [2004])
                         rw [wrL_app, wrL_app, List.length_append]
                         show _ = upd (wrL (wrL (x 31) sz r3.1) (sz + r3.1.length) r5.1) (sz + (r3.1.length + r5.1.length)) (nI 2004)
                         rw [k5, show (xr x3 1 f4) 31 = x3 31 from rfl, k3, Nat.add_assoc]
                         rfl)
                      | (have w : pNamed g len (some F) a = .ok ((r3.1 ++ r5.1 ++ [2005]), a3) := by
                           unfold pNamed
                           rw [hw2, xbn_ok]
                           show (if w < 9 then _ else _) = _
                           rw [if_neg (by omega)]
                           show xbn (pTake g len 91 _) _ = _
                           rw [e2, xbn_ok, e3, xbn_ok, e4, xbn_ok, e5, xbn_ok, e6, xbn_ok]
                           show Except.ok (r3.1 ++ r5.1 ++ [if w = 9 then 2004 else 2005], a3) = _
                           rw [if_neg h104]
                         refine ⟨by rw [w]; rfl, ((A6.puts (SL_ (by decide) (by decide)) (by decide)).puts (SL_ (by decide) (by decide)) (by decide)).fin (q := ((r3.1 ++ r5.1 ++ [2005]), a3)) (show TP _ g len a3 from T6) w, fun q hq => ?_⟩
                         rw [w] at hq
                         injection hq with hq
                         subst hq
                         refine ⟨(show nI _ = nI _ by congr 1; show _ = sz + (r3.1 ++ r5.1 ++ [2005]).length; rw [List.length_append, List.length_append, List.length_singleton]; omega), ?_⟩
                         show upd (x5 31) (sz + r3.1.length + r5.1.length) (nI 2005) = wrL (x 31) sz (r3.1 ++ r5.1 ++ [2005])
                         rw [wrL_app, wrL_app, List.length_append]
                         show _ = upd (wrL (wrL (x 31) sz r3.1) (sz + r3.1.length) r5.1) (sz + (r3.1.length + r5.1.length)) (nI 2005)
                         rw [k5, show (xr x3 1 f4) 31 = x3 31 from rfl, k3, Nat.add_assoc]
                         rfl)
                  · refine r_sipush (v := nI 2004) dX5_readNamed_107 (by decide) ?_
                    refine r_goto (tgt := 116) dX5_readNamed_110 (by decide) ?_
                    refine r_callV (c_X5_put (x := (xr x5 1 f6)) z5 (by omega)) mv_X5_put ml_X5_59 ⟨by omega, by decide⟩ dX5_readNamed_116 (by first | assumption | rfl) rfl rfl rfl (Nat.le_of_ble_eq_true rfl) (fun v9 x9 h9 => ?_)
                    obtain ⟨rfl, h9⟩ := h9
                    refine PW.xeq h9 ?_
                    clear h9 x9
                    refine r_iconst (v := nI 1) dX5_readNamed_119 (by decide) ?_
                    refine r_zret rfl (by first | exact bI_01 _ | exact Or.inl rfl | exact Or.inr rfl) dX5_readNamed_120 ?_
                    first
                      | (have w : pNamed g len (some F) a = .ok ((r3.1 ++ r5.1 ++ [2004]), a3) := by
                           unfold pNamed
                           rw [hw2, xbn_ok]
                           show (if w < 9 then _ else _) = _
                           rw [if_neg (by omega)]
                           show xbn (pTake g len 91 _) _ = _
                           rw [e2, xbn_ok, e3, xbn_ok, e4, xbn_ok, e5, xbn_ok, e6, xbn_ok]
                           show Except.ok (r3.1 ++ r5.1 ++ [if w = 9 then 2004 else 2005], a3) = _
                           rw [if_pos h104]
                         refine ⟨by rw [w]; rfl, ((A6.puts (SL_ (by decide) (by decide)) (by decide)).puts (SL_ (by decide) (by decide)) (by decide)).fin (q := ((r3.1 ++ r5.1 ++ [2004]), a3)) (show TP _ g len a3 from T6) w, fun q hq => ?_⟩
                         rw [w] at hq
                         injection hq with hq
                         subst hq
                         refine ⟨(show nI _ = nI _ by congr 1; show _ = sz + (r3.1 ++ r5.1 ++ [2004]).length; rw [List.length_append, List.length_append, List.length_singleton]; omega), ?_⟩
                         show upd (x5 31) (sz + r3.1.length + r5.1.length) (nI 2004) = wrL (x 31) sz (r3.1 ++ r5.1 ++ [2004])
                         rw [wrL_app, wrL_app, List.length_append]
                         show _ = upd (wrL (wrL (x 31) sz r3.1) (sz + r3.1.length) r5.1) (sz + (r3.1.length + r5.1.length)) (nI 2004)
                         rw [k5, show (xr x3 1 f4) 31 = x3 31 from rfl, k3, Nat.add_assoc]
                         rfl)
                      | (have w : pNamed g len (some F) a = .ok ((r3.1 ++ r5.1 ++ [2005]), a3) := by
                           unfold pNamed
                           rw [hw2, xbn_ok]
                           show (if w < 9 then _ else _) = _
                           rw [if_neg (by omega)]
                           show xbn (pTake g len 91 _) _ = _
                           rw [e2, xbn_ok, e3, xbn_ok, e4, xbn_ok, e5, xbn_ok, e6, xbn_ok]
                           show Except.ok (r3.1 ++ r5.1 ++ [if w = 9 then 2004 else 2005], a3) = _
                           rw [if_neg h104]
                         refine ⟨by rw [w]; rfl, ((A6.puts (SL_ (by decide) (by decide)) (by decide)).puts (SL_ (by decide) (by decide)) (by decide)).fin (q := ((r3.1 ++ r5.1 ++ [2005]), a3)) (show TP _ g len a3 from T6) w, fun q hq => ?_⟩
                         rw [w] at hq
                         injection hq with hq
                         subst hq
                         refine ⟨(show nI _ = nI _ by congr 1; show _ = sz + (r3.1 ++ r5.1 ++ [2005]).length; rw [List.length_append, List.length_append, List.length_singleton]; omega), ?_⟩
                         show upd (x5 31) (sz + r3.1.length + r5.1.length) (nI 2005) = wrL (x 31) sz (r3.1 ++ r5.1 ++ [2005])
                         rw [wrL_app, wrL_app, List.length_append]
                         show _ = upd (wrL (wrL (x 31) sz r3.1) (sz + r3.1.length) r5.1) (sz + (r3.1.length + r5.1.length)) (nI 2005)
                         rw [k5, show (xr x3 1 f4) 31 = x3 31 from rfl, k3, Nat.add_assoc]
                         rfl)
                · refine r_iconst (v := nI 0) dX5_readNamed_98 (by decide) ?_
                  refine r_zret rfl (by first | exact bI_01 _ | exact Or.inl rfl | exact Or.inr rfl) dX5_readNamed_99 ?_
                  first
                    | (obtain ⟨er, e4⟩ := okB_f h75
                       have w : pNamed g len (some F) a = .error er := by
                         unfold pNamed
                         rw [hw2, xbn_ok]
                         show (if w < 9 then _ else _) = _
                         rw [if_neg (by omega)]
                         show xbn (pTake g len 91 _) _ = _
                         rw [e2, xbn_ok, e3, xbn_ok, e4, xbn_err]
                       exact ⟨by rw [w]; rfl, A3.err q4 e4 w, fun q hq => by rw [w] at hq; cases hq⟩)
                    | (obtain ⟨er, e5⟩ := okB_f h86
                       have w : pNamed g len (some F) a = .error er := by
                         unfold pNamed
                         rw [hw2, xbn_ok]
                         show (if w < 9 then _ else _) = _
                         rw [if_neg (by omega)]
                         show xbn (pTake g len 91 _) _ = _
                         rw [e2, xbn_ok, e3, xbn_ok, e4, xbn_ok, e5, xbn_err]
                       exact ⟨by rw [w]; rfl, A4.perr h5.1 e5 w, fun q hq => by rw [w] at hq; cases hq⟩)
                    | (obtain ⟨er, e6⟩ := okB_f h95
                       have w : pNamed g len (some F) a = .error er := by
                         unfold pNamed
                         rw [hw2, xbn_ok]
                         show (if w < 9 then _ else _) = _
                         rw [if_neg (by omega)]
                         show xbn (pTake g len 91 _) _ = _
                         rw [e2, xbn_ok, e3, xbn_ok, e4, xbn_ok, e5, xbn_ok, e6, xbn_err]
                       exact ⟨by rw [w]; rfl, A5.err q6 e6 w, fun q hq => by rw [w] at hq; cases hq⟩)
          · refine r_iconst (v := nI 0) dX5_readNamed_67 (by decide) ?_
            refine r_zret rfl (by first | exact bI_01 _ | exact Or.inl rfl | exact Or.inr rfl) dX5_readNamed_68 ?_
            first
              | (obtain ⟨er, e2⟩ := okB_f h53
                 have w : pNamed g len (some F) a = .error er := by
                   unfold pNamed
                   rw [hw2, xbn_ok]
                   show (if w < 9 then _ else _) = _
                   rw [if_neg (by omega)]
                   show xbn (pTake g len 91 _) _ = _
                   rw [e2, xbn_err]
                 exact ⟨by rw [w]; rfl, A1.err q2 e2 w, fun q hq => by rw [w] at hq; cases hq⟩)
              | (obtain ⟨er, e3⟩ := okB_f h64
                 have w : pNamed g len (some F) a = .error er := by
                   unfold pNamed
                   rw [hw2, xbn_ok]
                   show (if w < 9 then _ else _) = _
                   rw [if_neg (by omega)]
                   show xbn (pTake g len 91 _) _ = _
                   rw [e2, xbn_ok, e3, xbn_err]
                 exact ⟨by rw [w]; rfl, A2.perr h3.1 e3 w, fun q hq => by rw [w] at hq; cases hq⟩)
      · refine r_aload_n dX5_readNamed_37 rfl (by rfl) ?_
        refine r_iconst (v := nI 3) dX5_readNamed_38 (by decide) ?_
        refine r_aload_n dX5_readNamed_39 rfl (by rfl) ?_
        refine gf_X5_85 rfl dX5_readNamed_40 (by first | assumption | rfl) (by rfl) ?_
        refine PW.topi (show (xr x 1 f1) 1 6 = nI (skip g len a) from b1) ?_
        refine r_callV c_X8_fail mv_X8_fail ml_X5_88 ⟨by omega, by decide⟩ dX5_readNamed_43 (by first | assumption | rfl) rfl rfl rfl (Nat.le_of_ble_eq_true rfl) (fun v9 x9 h9 => ?_)
        obtain ⟨rfl, h9⟩ := h9
        refine PW.xeq h9 ?_
        clear h9 x9
        refine r_zret rfl (by first | exact bI_01 _ | exact Or.inl rfl | exact Or.inr rfl) dX5_readNamed_46 ?_
        obtain ⟨rfl, _⟩ : s = none ∧ 6 ≤ op := by
          rcases hs with q | ⟨_, _, q, _⟩
          · exact q
          · omega
        have w : pNamed g len none a = .error (3, skip g len a) := by
          unfold pNamed
          rw [hw2, xbn_ok]
          show (if w < 9 then _ else _) = _
          rw [if_neg (by omega)]
        exact ⟨by rw [w]; rfl, A1.fail w, fun q hq => by rw [w] at hq; cases hq⟩
    · refine r_aload_n dX5_readNamed_20 rfl (by rfl) ?_
      refine r_sipush (v := nI 1000) dX5_readNamed_21 (by decide) ?_
      refine r_iload_n dX5_readNamed_24 rfl (by rfl) ?_
      refine r_iaddN dX5_readNamed_25 ?_
      refine r_callV (c_X5_put (x := (xr x 1 f1)) hz (by omega)) mv_X5_put ml_X5_59 ⟨by omega, by decide⟩ dX5_readNamed_26 (by first | assumption | rfl) rfl rfl rfl (Nat.le_of_ble_eq_true rfl) (fun v9 x9 h9 => ?_)
      obtain ⟨rfl, h9⟩ := h9
      refine PW.xeq h9 ?_
      clear h9 x9
      refine r_iconst (v := nI 1) dX5_readNamed_29 (by decide) ?_
      refine r_zret rfl (by first | exact bI_01 _ | exact Or.inl rfl | exact Or.inr rfl) dX5_readNamed_30 ?_
      have ww : pNamed g len s a = .ok ([1000 + w], smE g len (skip g len a)) := by
        unfold pNamed
        rw [hw2, xbn_ok]
        show (if w < 9 then _ else _) = _
        rw [if_pos (by omega)]
      exact ⟨by rw [ww]; rfl, ((A1.puts (SL_ (by decide) (by decide)) (by decide)).puts (SL_ (by decide) (by decide)) (by decide)).fin (q := ([1000 + w], smE g len (skip g len a))) (show TP _ g len (smE g len (skip g len a)) from T1) ww, fun q hq => by
        rw [ww] at hq
        injection hq with hq
        subst hq
        exact ⟨rfl, rfl⟩⟩
  · refine r_iconst (v := nI 0) dX5_readNamed_12 (by decide) ?_
    refine r_zret rfl (by first | exact bI_01 _ | exact Or.inl rfl | exact Or.inr rfl) dX5_readNamed_13 ?_
    have hw2 := pWord_eq (by decide) h9
    have w : pNamed g len s a = .error (1, skip g len a) := by
      unfold pNamed
      rw [hw2, xbn_err]
    exact ⟨by rw [w]; rfl, AC.rfl.err q1 hw2 w, fun q hq => by rw [w] at hq; cases hq⟩
set_option maxHeartbeats 8000000 in
set_option maxRecDepth 20000 in
theorem c_X5_readUnit {g : Nat → Nat} {len d op a sz : Nat} {s : Option (Nat → LR)} {x : XS} (hl : len ≤ 150) (hop : op ≤ 6) (hs : BR g len d op s) (hd : 5 ≤ d) (hT : TP x g len a) (hz : x 30 1 = nI sz) (hsz : sz ≤ a) : MM mX5_readUnit (d + 2) 0 0 [.ref 30, .ref 1, .int (nI op)] x (LPq g len (pU g len s) a sz x) NoT := by
  refine MM.of (by decide) (Nat.le_of_ble_eq_true rfl) ?_
  have y1 := lay_1
  have y2 := lay_2
  have y30 := lay_30
  have y31 := lay_31
  refine r_aload_n dX5_readUnit_0 rfl (by rfl) ?_
  refine r_callV (c_X8_next hT) mv_X8_next ml_X5_51 ⟨by omega, by decide⟩ dX5_readUnit_1 (by first | assumption | rfl) rfl rfl rfl (Nat.le_of_ble_eq_true rfl) (fun v9 x9 h9 => ?_)
  obtain ⟨rfl, h9⟩ := h9
  refine PW.xeq h9 ?_
  clear h9 x9
  refine r_istore_n dX5_readUnit_4 rfl (by decide) ?_
  have B0 : TP (atX x (skip g len a)) g len (skip g len a) := hT.at (skip_le hT.2.2.2.1)
  have hge := skip_ge g len a
  have A00 : AC SL x (atX x (skip g len a)) := AC.rfl.at
  refine r_iload_n dX5_readUnit_5 rfl (by rfl) ?_
  refine r_bipush (v := nI 40) dX5_readUnit_6 (by decide) ?_
  refine r_icmp_ne (tgt := 58) dX5_readUnit_8 (by decide) (fun h8 => ?_) (fun h8 => ?_)
  · refine r_iload_n dX5_readUnit_58 rfl (by rfl) ?_
    refine r_callS c_X8_isDigit ms_X8_isDigit ml_X5_70 ⟨by omega, by decide⟩ dX5_readUnit_59 rfl (Nat.le_of_ble_eq_true rfl) (fun v9 x9 h9 => ?_)
    obtain ⟨rfl, h9⟩ := h9
    refine PW.xeq h9 ?_
    clear h9 x9
    refine r_if_neB (tgt := 72) dX5_readUnit_62 (by decide) (fun h62 => ?_) (fun h62 => ?_)
    · refine r_aload_n dX5_readUnit_72 rfl (by rfl) ?_
      refine r_iconst (v := nI 0) dX5_readUnit_73 (by decide) ?_
      refine r_sipush (v := nI 999) dX5_readUnit_74 (by decide) ?_
      refine r_callV (c_X8_number B0 (by decide)) mv_X8_number ml_X5_76 ⟨by omega, by decide⟩ dX5_readUnit_77 (by first | assumption | rfl) rfl rfl rfl (Nat.le_of_ble_eq_true rfl) (fun v9 x9 h9 => ?_)
      obtain ⟨rfl, h9⟩ := h9
      obtain ⟨v9, f1, e9, q1, b1⟩ := num_rel (x := (atX x (skip g len a))) (lo := 0) (n := 1000) (hv := nI 999) B0 (by decide) (by decide) (by decide +kernel)
      refine PW.topi v9 ?_
      refine PW.xeq (h9.trans e9) ?_
      clear h9 x9 v9 e9
      refine r_istore dX5_readUnit_80 (by decide) ?_
      refine r_iload dX5_readUnit_82 (by rfl) ?_
      refine r_iconst (v := -1) dX5_readUnit_84 (by decide) ?_
      refine r_icmp_ne (tgt := 90) dX5_readUnit_85 (by decide) (fun h85 => ?_) (fun h85 => ?_)
      · obtain ⟨v, a2, hv, hvn⟩ := pI_ne h85
        rw [show pI (pNum g len 0 1000 (skip g len a)) = nI v by rw [hv]; rfl]
        have T1 : TP (xr (atX x (skip g len a)) 1 f1) g len a2 := q1.tp B0 hv
        have A1 : AC SL x (xr (atX x (skip g len a)) 1 f1) := A00.pf q1 hv
        rw [pNum_skip] at hv
        have g1 : a + 1 ≤ a2 := pNum_ge (q := (v, a2)) (fun j hj => (hT.2.2.2.2 j hj).2) (by omega) hv
        have g2 := T1.2.2.2.1
        refine r_aload_n dX5_readUnit_90 rfl (by rfl) ?_
        refine r_iload dX5_readUnit_91 (by rfl) ?_
        refine r_callV (c_X5_put (x := (xr (atX x (skip g len a)) 1 f1)) hz (by omega)) mv_X5_put ml_X5_59 ⟨by omega, by decide⟩ dX5_readUnit_93 (by first | assumption | rfl) rfl rfl rfl (Nat.le_of_ble_eq_true rfl) (fun v9 x9 h9 => ?_)
        obtain ⟨rfl, h9⟩ := h9
        refine PW.xeq h9 ?_
        clear h9 x9
        refine r_iconst (v := nI 1) dX5_readUnit_96 (by decide) ?_
        refine r_zret rfl (by first | exact bI_01 _ | exact Or.inl rfl | exact Or.inr rfl) dX5_readUnit_97 ?_
        have w : pU g len s a = .ok ([v], a2) := by
          unfold pU
          rw [if_neg h8, if_pos h62, hv, xbn_ok]
        exact ⟨by rw [w]; rfl, ((A1.puts (SL_ (by decide) (by decide)) (by decide)).puts (SL_ (by decide) (by decide)) (by decide)).fin (q := ([v], a2)) (show TP _ g len a2 from T1) w, fun q hq => by
          rw [w] at hq
          injection hq with hq
          subst hq
          exact ⟨rfl, rfl⟩⟩
      · refine r_iconst (v := nI 0) dX5_readUnit_88 (by decide) ?_
        refine r_zret rfl (by first | exact bI_01 _ | exact Or.inl rfl | exact Or.inr rfl) dX5_readUnit_89 ?_
        obtain ⟨er, e1⟩ := pI_eq (by decide) h85
        have w : pU g len s a = .error er := by
          unfold pU
          rw [if_neg h8, if_pos h62, ← pNum_skip, e1, xbn_err]
        exact ⟨by rw [w]; rfl, A00.err q1 e1 w, fun q hq => by rw [w] at hq; cases hq⟩
    · refine r_aload_n dX5_readUnit_65 rfl (by rfl) ?_
      refine r_aload_n dX5_readUnit_66 rfl (by rfl) ?_
      refine r_iload_n dX5_readUnit_67 rfl (by rfl) ?_
      refine r_callV (c_X5_readNamed (x := (atX x (skip g len a))) hl hop hs hd B0 hz (by omega)) mv_X5_readNamed ml_X5_73 ⟨by omega, by decide⟩ dX5_readUnit_68 (by first | assumption | rfl) rfl rfl rfl (Nat.le_of_ble_eq_true rfl) (fun v9 x3 h3 => ?_)
      obtain ⟨rfl, h3⟩ := h3
      refine r_zret rfl (by first | exact bI_01 _ | exact Or.inl rfl | exact Or.inr rfl) dX5_readUnit_71 ?_
      have w : pU g len s a = pNamed g len s (skip g len a) := by
        unfold pU
        rw [if_neg h8, if_neg (by rw [h62]; decide), pNamed_skip]
      refine ⟨by rw [w], ?_, fun q hq => ?_⟩
      · rw [w]
        exact A00.po h3.1
      · rw [w] at hq
        exact h3.2 q hq
  · refine r_iload_n dX5_readUnit_11 rfl (by rfl) ?_
    refine r_bipush (v := nI 6) dX5_readUnit_12 (by decide) ?_
    refine r_icmp_ltN (tgt := 23) dX5_readUnit_14 (by decide) (by omega) (by omega) (fun h14 => ?_) (fun h14 => ?_)
    · obtain ⟨F, rfl, _, hF, hLen⟩ : ∃ F, s = some F ∧ op < 6 ∧ LPc g len mX5_readSum d (op + 1) F ∧ LenOK len F := by
        rcases hs with q | q
        · exact absurd q.2 (by omega)
        · exact q
      have ht : pTake g len 40 (skip g len a) = .ok (skip g len a + 1) := by
        rw [pTake_skip]
        unfold pTake
        rw [if_pos h8]
      refine r_aload_n dX5_readUnit_23 rfl (by rfl) ?_
      refine r_bipush (v := nI 40) dX5_readUnit_24 (by decide) ?_
      refine r_callV (c_X8_take B0) mv_X8_take ml_X5_55 ⟨by omega, by decide⟩ dX5_readUnit_26 (by first | assumption | rfl) rfl rfl rfl (Nat.le_of_ble_eq_true rfl) (fun v9 x9 h9 => ?_)
      obtain ⟨rfl, h9⟩ := h9
      obtain ⟨v9, f1, e9, q1⟩ := tak_rel (x := (atX x (skip g len a))) (c := 40) B0
      have q1 := q1 (by decide +kernel)
      refine PW.topi (congrArg bI v9) ?_
      refine PW.xeq (h9.trans e9) ?_
      clear h9 x9 v9 e9
      refine r_if_eqB (tgt := 56) dX5_readUnit_29 (by decide) (fun h29 => ?_) (fun h29 => ?_)
      · refine r_iconst (v := nI 0) dX5_readUnit_56 (by decide) ?_
        refine r_zret rfl (by first | exact bI_01 _ | exact Or.inl rfl | exact Or.inr rfl) dX5_readUnit_57 ?_
        first
          | (rw [ht] at h29; exact Bool.noConfusion (show true = false from h29))
          | (obtain ⟨er, e3⟩ := okB_f h40
             have w : pU g len (some F) a = .error er := by
               unfold pU
               rw [if_pos h8]
               show xbn (F (skip g len a + 1)) _ = _
               rw [e3, xbn_err]
             exact ⟨by rw [w]; rfl, A1.perr h3.1 e3 w, fun q hq => by rw [w] at hq; cases hq⟩)
          | (obtain ⟨er, e4⟩ := okB_f h49
             have w : pU g len (some F) a = .error er := by
               unfold pU
               rw [if_pos h8]
               show xbn (F (skip g len a + 1)) _ = _
               rw [e3, xbn_ok, e4, xbn_err]
             exact ⟨by rw [w]; rfl, A3.err q4 e4 w, fun q hq => by rw [w] at hq; cases hq⟩)
          | (have w : pU g len (some F) a = .ok (r3.1, a2) := by
               unfold pU
               rw [if_pos h8]
               show xbn (F (skip g len a + 1)) _ = _
               rw [e3, xbn_ok, e4, xbn_ok]
             exact ⟨by rw [w]; rfl, A4.fin (q := (r3.1, a2)) T4 w, fun q hq => by
               rw [w] at hq
               injection hq with hq
               subst hq
               exact ⟨z3, k3⟩⟩)
      · have T1 : TP (xr (atX x (skip g len a)) 1 f1) g len (skip g len a + 1) := q1.tp B0 ht
        have A1 : AC SL x (xr (atX x (skip g len a)) 1 f1) := A00.pf q1 ht
        refine r_aload_n dX5_readUnit_32 rfl (by rfl) ?_
        refine r_aload_n dX5_readUnit_33 rfl (by rfl) ?_
        refine r_iload_n dX5_readUnit_34 rfl (by rfl) ?_
        refine r_iconst (v := nI 1) dX5_readUnit_35 (by decide) ?_
        refine r_iaddN dX5_readUnit_36 ?_
        refine r_callV (hF (skip g len a + 1) sz (xr (atX x (skip g len a)) 1 f1) T1 hz (by omega)) mv_X5_readSum ml_X5_38 ⟨by omega, by decide⟩ dX5_readUnit_37 (by first | assumption | rfl) rfl rfl rfl (Nat.le_of_ble_eq_true rfl) (fun v9 x3 h3 => ?_)
        obtain ⟨rfl, h3⟩ := h3
        refine r_if_eqB (tgt := 56) dX5_readUnit_40 (by decide) (fun h40 => ?_) (fun h40 => ?_)
        · refine r_iconst (v := nI 0) dX5_readUnit_56 (by decide) ?_
          refine r_zret rfl (by first | exact bI_01 _ | exact Or.inl rfl | exact Or.inr rfl) dX5_readUnit_57 ?_
          first
            | (rw [ht] at h29; exact Bool.noConfusion (show true = false from h29))
            | (obtain ⟨er, e3⟩ := okB_f h40
               have w : pU g len (some F) a = .error er := by
                 unfold pU
                 rw [if_pos h8]
                 show xbn (F (skip g len a + 1)) _ = _
                 rw [e3, xbn_err]
               exact ⟨by rw [w]; rfl, A1.perr h3.1 e3 w, fun q hq => by rw [w] at hq; cases hq⟩)
            | (obtain ⟨er, e4⟩ := okB_f h49
               have w : pU g len (some F) a = .error er := by
                 unfold pU
                 rw [if_pos h8]
                 show xbn (F (skip g len a + 1)) _ = _
                 rw [e3, xbn_ok, e4, xbn_err]
               exact ⟨by rw [w]; rfl, A3.err q4 e4 w, fun q hq => by rw [w] at hq; cases hq⟩)
            | (have w : pU g len (some F) a = .ok (r3.1, a2) := by
                 unfold pU
                 rw [if_pos h8]
                 show xbn (F (skip g len a + 1)) _ = _
                 rw [e3, xbn_ok, e4, xbn_ok]
               exact ⟨by rw [w]; rfl, A4.fin (q := (r3.1, a2)) T4 w, fun q hq => by
                 rw [w] at hq
                 injection hq with hq
                 subst hq
                 exact ⟨z3, k3⟩⟩)
        · obtain ⟨r3, e3⟩ := okB_t h40
          have T3 := (h3.1.ok e3).1
          have A3 := A1.of h3.1 e3
          obtain ⟨z3, k3⟩ := h3.2 r3 e3
          refine r_aload_n dX5_readUnit_43 rfl (by rfl) ?_
          refine r_bipush (v := nI 41) dX5_readUnit_44 (by decide) ?_
          refine r_callV (c_X8_take T3) mv_X8_take ml_X5_55 ⟨by omega, by decide⟩ dX5_readUnit_46 (by first | assumption | rfl) rfl rfl rfl (Nat.le_of_ble_eq_true rfl) (fun v9 x9 h9 => ?_)
          obtain ⟨rfl, h9⟩ := h9
          obtain ⟨v9, f4, e9, q4⟩ := tak_rel (x := x3) (c := 41) T3
          have q4 := q4 (by decide +kernel)
          refine PW.topi (congrArg bI v9) ?_
          refine PW.xeq (h9.trans e9) ?_
          clear h9 x9 v9 e9
          refine r_if_eqB (tgt := 56) dX5_readUnit_49 (by decide) (fun h49 => ?_) (fun h49 => ?_)
          · refine r_iconst (v := nI 0) dX5_readUnit_56 (by decide) ?_
            refine r_zret rfl (by first | exact bI_01 _ | exact Or.inl rfl | exact Or.inr rfl) dX5_readUnit_57 ?_
            first
              | (rw [ht] at h29; exact Bool.noConfusion (show true = false from h29))
              | (obtain ⟨er, e3⟩ := okB_f h40
                 have w : pU g len (some F) a = .error er := by
                   unfold pU
                   rw [if_pos h8]
                   show xbn (F (skip g len a + 1)) _ = _
                   rw [e3, xbn_err]
                 exact ⟨by rw [w]; rfl, A1.perr h3.1 e3 w, fun q hq => by rw [w] at hq; cases hq⟩)
              | (obtain ⟨er, e4⟩ := okB_f h49
                 have w : pU g len (some F) a = .error er := by
                   unfold pU
                   rw [if_pos h8]
                   show xbn (F (skip g len a + 1)) _ = _
                   rw [e3, xbn_ok, e4, xbn_err]
                 exact ⟨by rw [w]; rfl, A3.err q4 e4 w, fun q hq => by rw [w] at hq; cases hq⟩)
              | (have w : pU g len (some F) a = .ok (r3.1, a2) := by
                   unfold pU
                   rw [if_pos h8]
                   show xbn (F (skip g len a + 1)) _ = _
                   rw [e3, xbn_ok, e4, xbn_ok]
                 exact ⟨by rw [w]; rfl, A4.fin (q := (r3.1, a2)) T4 w, fun q hq => by
                   rw [w] at hq
                   injection hq with hq
                   subst hq
                   exact ⟨z3, k3⟩⟩)
          · obtain ⟨a2, e4⟩ := okB_t h49
            have T4 : TP (xr x3 1 f4) g len a2 := q4.tp T3 e4
            have A4 : AC SL x (xr x3 1 f4) := A3.pf q4 e4
            refine r_iconst (v := nI 1) dX5_readUnit_52 (by decide) ?_
            refine r_goto (tgt := 57) dX5_readUnit_53 (by decide) ?_
            refine r_zret rfl (by first | exact bI_01 _ | exact Or.inl rfl | exact Or.inr rfl) dX5_readUnit_57 ?_
            first
              | (rw [ht] at h29; exact Bool.noConfusion (show true = false from h29))
              | (obtain ⟨er, e3⟩ := okB_f h40
                 have w : pU g len (some F) a = .error er := by
                   unfold pU
                   rw [if_pos h8]
                   show xbn (F (skip g len a + 1)) _ = _
                   rw [e3, xbn_err]
                 exact ⟨by rw [w]; rfl, A1.perr h3.1 e3 w, fun q hq => by rw [w] at hq; cases hq⟩)
              | (obtain ⟨er, e4⟩ := okB_f h49
                 have w : pU g len (some F) a = .error er := by
                   unfold pU
                   rw [if_pos h8]
                   show xbn (F (skip g len a + 1)) _ = _
                   rw [e3, xbn_ok, e4, xbn_err]
                 exact ⟨by rw [w]; rfl, A3.err q4 e4 w, fun q hq => by rw [w] at hq; cases hq⟩)
              | (have w : pU g len (some F) a = .ok (r3.1, a2) := by
                   unfold pU
                   rw [if_pos h8]
                   show xbn (F (skip g len a + 1)) _ = _
                   rw [e3, xbn_ok, e4, xbn_ok]
                 exact ⟨by rw [w]; rfl, A4.fin (q := (r3.1, a2)) T4 w, fun q hq => by
                   rw [w] at hq
                   injection hq with hq
                   subst hq
                   exact ⟨z3, k3⟩⟩)
    · refine r_aload_n dX5_readUnit_17 rfl (by rfl) ?_
      refine r_iconst (v := nI 3) dX5_readUnit_18 (by decide) ?_
      refine r_callV (c_X8_failHere (x := (atX x (skip g len a))) (a := skip g len a) rfl) mv_X8_failHere ml_X5_66 ⟨by omega, by decide⟩ dX5_readUnit_19 (by first | assumption | rfl) rfl rfl rfl (Nat.le_of_ble_eq_true rfl) (fun v9 x9 h9 => ?_)
      obtain ⟨rfl, h9⟩ := h9
      refine PW.xeq h9 ?_
      clear h9 x9
      refine r_zret rfl (by first | exact bI_01 _ | exact Or.inl rfl | exact Or.inr rfl) dX5_readUnit_22 ?_
      obtain ⟨rfl, _⟩ : s = none ∧ 6 ≤ op := by
        rcases hs with q | ⟨_, _, q, _⟩
        · exact q
        · omega
      have w : pU g len none a = .error (3, skip g len a) := by
        unfold pU
        rw [if_pos h8]
        
      exact ⟨by rw [w]; rfl, A00.fail w, fun q hq => by rw [w] at hq; cases hq⟩
/-- the readers of a law, level by level -/
theorem law_up {g : Nat → Nat} {len d op : Nat} {u : Nat → LR} (hl : len ≤ 150) (hd : 1 ≤ d) (hu : LPc g len mX5_readUnit d op u) (hLen : LenOK len u) : LPc g len mX5_readSum (d + 1 + 1) op (pSumOf g len u) := fun a sz x hT hz hsz => c_X5_readSum hl (by omega) (fun a sz x hT hz hsz => c_X5_readProduct hl hd hu hLen hT hz hsz) hLen.chain hT hz hsz
theorem law_all {g : Nat → Nat} {len : Nat} (hl : len ≤ 150) (hg : ∀ j, j < 600 → g j < 256) : ∀ lev op, op + lev = 6 → LPc g len mX5_readSum (9 + 4 * lev) op (pSum g len lev)
  | 0, op, ho => law_up (d := 7) hl (by decide) (fun a sz x hT hz hsz => c_X5_readUnit (d := 5) (s := none) hl (by omega) (Or.inl ⟨rfl, by omega⟩) (by decide) hT hz hsz) (LenOK.all hg (by omega) 0)
  | lev + 1, op, ho => by
    have ih := law_all hl hg lev (op + 1) (by omega)
    have hU : LPc g len mX5_readUnit (9 + 4 * lev + 2) op (pUnit g len (lev + 1)) := fun a sz x hT hz hsz => c_X5_readUnit (s := some (pSum g len lev)) hl (by omega) (Or.inr ⟨_, rfl, by omega, ih, (LenOK.all hg (by omega) lev).sumOf⟩) (by omega) hT hz hsz
    have z := law_up hl (by omega) hU (LenOK.all hg (by omega) (lev + 1))
    rw [show 9 + 4 * (lev + 1) = 9 + 4 * lev + 2 + 1 + 1 by omega]
    exact z
set_option maxHeartbeats 8000000 in
set_option maxRecDepth 20000 in
theorem c_X5_read {g : Nat → Nat} {len a : Nat} {x : XS} (hl : len ≤ 150) (hT : TP x g len a) : MM mX5_read 34 0 0 [.ref 30, .ref 1] x (LPq g len (pLaw g len) a 0 x) NoT := by
  refine MM.of (by decide) (Nat.le_of_ble_eq_true rfl) ?_
  have y1 := lay_1
  have y2 := lay_2
  have y30 := lay_30
  have y31 := lay_31
  have hg : ∀ j, j < 600 → g j < 256 := fun j hj => (hT.2.2.2.2 j hj).2
  have T0 : TP (xu x 30 1 (nI 0)) g len a := hT
  have A0 : AC SL x (xu x 30 1 (nI 0)) := AC.rfl.puts (SL_ (by decide) (by decide)) (by decide)
  refine r_aload_n dX5_read_0 rfl (by rfl) ?_
  refine r_iconst (v := nI 0) dX5_read_1 (by decide) ?_
  refine pf_X5_15 rfl dX5_read_2 (by first | assumption | rfl) (by rfl) ?_
  refine r_aload_n dX5_read_5 rfl (by rfl) ?_
  refine r_aload_n dX5_read_6 rfl (by rfl) ?_
  refine r_iconst (v := nI 0) dX5_read_7 (by decide) ?_
  refine r_callV (law_all hl hg 6 0 rfl a 0 (xu x 30 1 (nI 0)) T0 rfl (Nat.zero_le _)) mv_X5_readSum ml_X5_38 ⟨by decide, by decide⟩ dX5_read_8 (by first | assumption | rfl) rfl rfl rfl (Nat.le_of_ble_eq_true rfl) (fun v9 x3 h3 => ?_)
  obtain ⟨rfl, h3⟩ := h3
  refine r_if_eqB (tgt := 25) dX5_read_11 (by decide) (fun h11 => ?_) (fun h11 => ?_)
  · refine r_iconst (v := nI 0) dX5_read_25 (by decide) ?_
    refine r_zret rfl (by first | exact bI_01 _ | exact Or.inl rfl | exact Or.inr rfl) dX5_read_26 ?_
    first
      | (obtain ⟨er, e3⟩ := okB_f h11
         have w : pLaw g len a = .error er := by unfold pLaw; rw [e3, xbn_err]
         exact ⟨by rw [w]; rfl, A0.perr h3.1 e3 w, fun q hq => by rw [w] at hq; cases hq⟩)
      | (obtain ⟨er, e4⟩ := okB_f h18
         have w : pLaw g len a = .error er := by unfold pLaw; rw [e3, xbn_ok, e4, xbn_err]
         exact ⟨by rw [w]; rfl, A3.err q4 e4 w, fun q hq => by rw [w] at hq; cases hq⟩)
      | (obtain ⟨a2, e4⟩ := okB_t h18
         have w : pLaw g len a = .ok (r3.1, a2) := by unfold pLaw; rw [e3, xbn_ok, e4, xbn_ok]
         exact ⟨by rw [w]; rfl, (A3.pf q4 e4).fin (q := (r3.1, a2)) (q4.tp T3 e4) w, fun q hq => by
           rw [w] at hq
           injection hq with hq
           subst hq
           exact ⟨z3, k3⟩⟩)
  · obtain ⟨r3, e3⟩ := okB_t h11
    have T3 := (h3.1.ok e3).1
    have A3 := A0.of h3.1 e3
    obtain ⟨z3, k3⟩ := h3.2 r3 e3
    refine r_aload_n dX5_read_14 rfl (by rfl) ?_
    refine r_callV (c_X8_nothingMore T3) mv_X8_nothingMore ml_X5_42 ⟨by decide, by decide⟩ dX5_read_15 (by first | assumption | rfl) rfl rfl rfl (Nat.le_of_ble_eq_true rfl) (fun v9 x9 h9 => ?_)
    obtain ⟨rfl, h9⟩ := h9
    obtain ⟨v9, f4, e9, q4⟩ := nm_rel (x := x3) T3
    refine PW.topi (congrArg bI v9) ?_
    refine PW.xeq (h9.trans e9) ?_
    clear h9 x9 v9 e9
    refine r_if_eqB (tgt := 25) dX5_read_18 (by decide) (fun h18 => ?_) (fun h18 => ?_)
    · refine r_iconst (v := nI 0) dX5_read_25 (by decide) ?_
      refine r_zret rfl (by first | exact bI_01 _ | exact Or.inl rfl | exact Or.inr rfl) dX5_read_26 ?_
      first
        | (obtain ⟨er, e3⟩ := okB_f h11
           have w : pLaw g len a = .error er := by unfold pLaw; rw [e3, xbn_err]
           exact ⟨by rw [w]; rfl, A0.perr h3.1 e3 w, fun q hq => by rw [w] at hq; cases hq⟩)
        | (obtain ⟨er, e4⟩ := okB_f h18
           have w : pLaw g len a = .error er := by unfold pLaw; rw [e3, xbn_ok, e4, xbn_err]
           exact ⟨by rw [w]; rfl, A3.err q4 e4 w, fun q hq => by rw [w] at hq; cases hq⟩)
        | (obtain ⟨a2, e4⟩ := okB_t h18
           have w : pLaw g len a = .ok (r3.1, a2) := by unfold pLaw; rw [e3, xbn_ok, e4, xbn_ok]
           exact ⟨by rw [w]; rfl, (A3.pf q4 e4).fin (q := (r3.1, a2)) (q4.tp T3 e4) w, fun q hq => by
             rw [w] at hq
             injection hq with hq
             subst hq
             exact ⟨z3, k3⟩⟩)
    · refine r_iconst (v := nI 1) dX5_read_21 (by decide) ?_
      refine r_goto (tgt := 26) dX5_read_22 (by decide) ?_
      refine r_zret rfl (by first | exact bI_01 _ | exact Or.inl rfl | exact Or.inr rfl) dX5_read_26 ?_
      first
        | (obtain ⟨er, e3⟩ := okB_f h11
           have w : pLaw g len a = .error er := by unfold pLaw; rw [e3, xbn_err]
           exact ⟨by rw [w]; rfl, A0.perr h3.1 e3 w, fun q hq => by rw [w] at hq; cases hq⟩)
        | (obtain ⟨er, e4⟩ := okB_f h18
           have w : pLaw g len a = .error er := by unfold pLaw; rw [e3, xbn_ok, e4, xbn_err]
           exact ⟨by rw [w]; rfl, A3.err q4 e4 w, fun q hq => by rw [w] at hq; cases hq⟩)
        | (obtain ⟨a2, e4⟩ := okB_t h18
           have w : pLaw g len a = .ok (r3.1, a2) := by unfold pLaw; rw [e3, xbn_ok, e4, xbn_ok]
           exact ⟨by rw [w]; rfl, (A3.pf q4 e4).fin (q := (r3.1, a2)) (q4.tp T3 e4) w, fun q hq => by
             rw [w] at hq
             injection hq with hq
             subst hq
             exact ⟨z3, k3⟩⟩)
