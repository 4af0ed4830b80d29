/-! WORK'S TEXT: steps -/
def BS (g : Nat → Nat) (len ns d op : Nat) (s : Option (Nat → Nat → SR)) : Prop := (s = none ∧ 6 ≤ op) ∨ ∃ F, s = some F ∧ op < 6 ∧ SPc g len ns mX7_readSteps d (op + 1) F ∧ LenS F
theorem WS3.z {x : XS} {n : Nat} (h : x 39 3 = nI n) : WS3 x x n [] := ⟨h, rfl, rfl, rfl, fun _ _ => rfl⟩
theorem WS3.fr {x x1 x2 : XS} {n : Nat} {l : List ST} (h : WS3 x x1 n l) (h39 : x2 39 = x1 39) (h40 : x2 40 = x1 40) (h41 : x2 41 = x1 41) (h42 : x2 42 = x1 42) : WS3 x x2 n l := by
  unfold WS3
  rw [h39, h40, h41, h42]
  exact h
theorem WS3.fr0 {x x0 x1 : XS} {n : Nat} {l : List ST} (h : WS3 x x1 n l) (h39 : x 39 = x0 39) (h40 : x 40 = x0 40) (h41 : x 41 = x0 41) (h42 : x 42 = x0 42) : WS3 x0 x1 n l := by
  unfold WS3
  rw [← h39, ← h40, ← h41, ← h42]
  exact h
theorem WS3.again {x x1 x2 : XS} {n t e : Nat} {l : List ST} (h : WS3 x x1 n ((6, t, 0) :: l)) (h39 : x2 39 = x1 39) (h40 : x2 40 = x1 40) (h41 : x2 41 = x1 41) (h42 : x2 42 = upd (x1 42) n (nI e)) : WS3 x x2 n ((6, t, e) :: l) := by
  refine ⟨by rw [h39]; exact h.1, by rw [h40]; exact h.2.1, by rw [h41]; exact h.2.2.1, ?_, fun k hk => by rw [h39]; exact h.2.2.2.2 k hk⟩
  rw [h42, h.2.2.2.1]
  show upd (wrL (upd (x 42) n (nI 0)) (n + 1) _) n (nI e) = wrL (upd (x 42) n (nI e)) (n + 1) _
  rw [wrL_upd _ _ _ (Nat.lt_succ_self n), upd_upd]
set_option maxHeartbeats 8000000 in
set_option maxRecDepth 20000 in
theorem c_X7_readAgain {g : Nat → Nat} {len ns d op n a b : Nat} {s : Option (Nat → Nat → SR)} {x : XS} (hl : len ≤ 150) (hop : op ≤ 6) (hs : BS g len ns d op s) (hd : 5 ≤ d) (hT : TP x g len a) (hz : x 39 3 = nI n) (hna : n + 1 ≤ a) (hb : x 1 6 = nI b) : MM mX7_readAgain (d + 1) 0 0 [.ref 39, .ref 1, .int (nI ns), .int (nI op)] x (fun v x1 => v = some (.int (bI (okB (pAgain g len s n b a)))) ∧ PO SS x x1 g len (pAgain g len s n b a) (fun q => q.2) ∧ ∀ q, pAgain g len s n b a = .ok q → WS3 x x1 n q.1) NoT := by
  refine MM.of (by decide) (Nat.le_of_ble_eq_true rfl) ?_
  have y1 := lay_1
  have y2 := lay_2
  have y39 := lay_39
  have y40 := lay_40
  have y41 := lay_41
  have y42 := lay_42
  have hal := hT.2.2.2.1
  refine r_iload_n dX7_readAgain_0 rfl (by rfl) ?_
  refine r_bipush (v := nI 6) dX7_readAgain_1 (by decide) ?_
  refine r_icmp_ltN (tgt := 16) dX7_readAgain_3 (by decide) (by omega) (by omega) (fun h3 => ?_) (fun h3 => ?_)
  · obtain ⟨F, rfl, _, hF, hLen⟩ : ∃ F, s = some F ∧ op < 6 ∧ SPc g len ns mX7_readSteps d (op + 1) F ∧ LenS F := by
      rcases hs with q | q
      · exact absurd q.2 (by omega)
      · exact q
    refine r_aload_n dX7_readAgain_16 rfl (by rfl) ?_
    refine r_iconst (v := nI 0) dX7_readAgain_17 (by decide) ?_
    refine r_bipush (v := nI 60) dX7_readAgain_18 (by decide) ?_
    refine r_callV (c_X8_number hT (by decide)) mv_X8_number ml_X7_72 ⟨by omega, by decide⟩ dX7_readAgain_20 (by first | assumption | rfl) rfl rfl rfl (Nat.le_of_ble_eq_true rfl) (fun v9 x9 h9 => ?_)
    obtain ⟨rfl, h9⟩ := h9
    obtain ⟨v9, f1, e9, q1, b1⟩ := num_rel (x := x) (lo := 0) (n := 61) (hv := nI 60) hT (by decide) (by decide) (by decide +kernel)
    refine PW.topi v9 ?_
    refine PW.xeq (h9.trans e9) ?_
    clear h9 x9 v9 e9
    refine r_istore dX7_readAgain_23 (by decide) ?_
    refine r_aload_n dX7_readAgain_25 rfl (by rfl) ?_
    refine gf_X7_21 rfl dX7_readAgain_26 (by first | assumption | rfl) (by rfl) ?_
    refine PW.topi (show _ = nI n from hz) ?_
    refine r_istore dX7_readAgain_29 (by decide) ?_
    refine r_iload dX7_readAgain_31 (by rfl) ?_
    refine r_iconst (v := -1) dX7_readAgain_33 (by decide) ?_
    refine r_icmp_eq (tgt := 49) dX7_readAgain_34 (by decide) (fun h34 => ?_) (fun h34 => ?_)
    · refine r_iconst (v := nI 0) dX7_readAgain_49 (by decide) ?_
      refine r_zret rfl (by first | exact bI_01 _ | exact Or.inl rfl | exact Or.inr rfl) dX7_readAgain_50 ?_
      obtain ⟨er, e1⟩ := pI_eq (by decide) h34
      have w : pAgain g len (some F) n b a = .error er := by
        show xbn (pNum g len 0 61 a) _ = _
        rw [e1, xbn_err]
      exact ⟨by rw [w]; rfl, AC.rfl.err q1 e1 w, fun q hq => by rw [w] at hq; cases hq⟩
    · obtain ⟨t, a2, e1, ht⟩ := pI_ne h34
      rw [show pI (pNum g len 0 61 a) = nI t by rw [e1]; rfl]
      have g1 : a ≤ a2 := pNum_ge0 e1
      have T1 : TP (xr x 1 f1) g len a2 := q1.tp hT e1
      have A1 : AC SS x (xr x 1 f1) := AC.rfl.pf q1 e1
      have T2 : TP (putS (xr x 1 f1) n 6 t 0) g len a2 := T1
      have A2 : AC SS x (putS (xr x 1 f1) n 6 t 0) := putS_A A1
      have W2 : WS3 x (putS (xr x 1 f1) n 6 t 0) n [(6, t, 0)] := putS_W rfl rfl rfl rfl
      refine r_aload_n dX7_readAgain_37 rfl (by rfl) ?_
      refine r_bipush (v := nI 6) dX7_readAgain_38 (by decide) ?_
      refine r_iload dX7_readAgain_40 (by rfl) ?_
      refine r_iconst (v := nI 0) dX7_readAgain_42 (by decide) ?_
      refine r_callV (c_X7_put (x := (xr x 1 f1)) (o := t) hz (by omega)) mv_X7_put ml_X7_68 ⟨by omega, by decide⟩ dX7_readAgain_43 (by first | assumption | rfl) rfl rfl rfl (Nat.le_of_ble_eq_true rfl) (fun v9 x9 h9 => ?_)
      obtain ⟨rfl, h9⟩ := h9
      refine PW.xeq h9 ?_
      clear h9 x9
      refine r_if_neB (tgt := 51) dX7_readAgain_46 (by decide) (fun _ => ?_) (fun h46 => by cases h46)
      refine r_aload_n dX7_readAgain_51 rfl (by rfl) ?_
      refine r_bipush (v := nI 91) dX7_readAgain_52 (by decide) ?_
      refine r_callV (c_X8_take T2) mv_X8_take ml_X7_51 ⟨by omega, by decide⟩ dX7_readAgain_54 (by first | assumption | rfl) rfl rfl rfl (Nat.le_of_ble_eq_true rfl) (fun v9 x9 h9 => ?_)
      obtain ⟨rfl, h9⟩ := h9
      obtain ⟨v9, f3, e9, q3⟩ := tak_rel (x := (putS (xr x 1 f1) n 6 t 0)) (c := 91) T2
      have q3 := q3 (by decide +kernel)
      refine PW.topi (congrArg bI v9) ?_
      refine PW.xeq (h9.trans e9) ?_
      clear h9 x9 v9 e9
      refine r_if_eqB (tgt := 81) dX7_readAgain_57 (by decide) (fun h57 => ?_) (fun h57 => ?_)
      · refine r_iconst (v := nI 0) dX7_readAgain_81 (by decide) ?_
        refine r_zret rfl (by first | exact bI_01 _ | exact Or.inl rfl | exact Or.inr rfl) dX7_readAgain_82 ?_
        first
          | (obtain ⟨er, e3⟩ := okB_f h57
             have w : pAgain g len (some F) n b a = .error er := by
               show xbn (pNum g len 0 61 a) _ = _
               rw [e1, xbn_ok, e3, xbn_err]
             exact ⟨by rw [w]; rfl, A2.err q3 e3 w, fun q hq => by rw [w] at hq; cases hq⟩)
          | (obtain ⟨er, e4⟩ := okB_f h69
             have w : pAgain g len (some F) n b a = .error er := by
               show xbn (pNum g len 0 61 a) _ = _
               rw [e1, xbn_ok, e3, xbn_ok, e4, xbn_err]
             exact ⟨by rw [w]; rfl, A3.perr h4.1 e4 w, fun q hq => by rw [w] at hq; cases hq⟩)
          | (obtain ⟨er, e5⟩ := okB_f h78
             have w : pAgain g len (some F) n b a = .error er := by
               show xbn (pNum g len 0 61 a) _ = _
               rw [e1, xbn_ok, e3, xbn_ok, e4, xbn_ok, e5, xbn_err]
             exact ⟨by rw [w]; rfl, A4.err q5 e5 w, fun q hq => by rw [w] at hq; cases hq⟩)
      · obtain ⟨a1, e3⟩ := okB_t h57
        have T3 : TP (xr (putS (xr x 1 f1) n 6 t 0) 1 f3) g len a1 := q3.tp T2 e3
        have A3 : AC SS x (xr (putS (xr x 1 f1) n 6 t 0) 1 f3) := A2.pf q3 e3
        have g3 := (pTake_ge e3).1
        refine r_aload_n dX7_readAgain_60 rfl (by rfl) ?_
        refine r_aload_n dX7_readAgain_61 rfl (by rfl) ?_
        refine r_iload_n dX7_readAgain_62 rfl (by rfl) ?_
        refine r_iload_n dX7_readAgain_63 rfl (by rfl) ?_
        refine r_iconst (v := nI 1) dX7_readAgain_64 (by decide) ?_
        refine r_iaddN dX7_readAgain_65 ?_
        refine r_callV (hF (n + 1) a1 (xr (putS (xr x 1 f1) n 6 t 0) 1 f3) T3 rfl (by omega)) mv_X7_readSteps ml_X7_34 ⟨by omega, by decide⟩ dX7_readAgain_66 (by first | assumption | rfl) rfl rfl rfl (Nat.le_of_ble_eq_true rfl) (fun v9 x4 h4 => ?_)
        obtain ⟨rfl, h4⟩ := h4
        refine r_if_eqB (tgt := 81) dX7_readAgain_69 (by decide) (fun h69 => ?_) (fun h69 => ?_)
        · refine r_iconst (v := nI 0) dX7_readAgain_81 (by decide) ?_
          refine r_zret rfl (by first | exact bI_01 _ | exact Or.inl rfl | exact Or.inr rfl) dX7_readAgain_82 ?_
          first
            | (obtain ⟨er, e3⟩ := okB_f h57
               have w : pAgain g len (some F) n b a = .error er := by
                 show xbn (pNum g len 0 61 a) _ = _
                 rw [e1, xbn_ok, e3, xbn_err]
               exact ⟨by rw [w]; rfl, A2.err q3 e3 w, fun q hq => by rw [w] at hq; cases hq⟩)
            | (obtain ⟨er, e4⟩ := okB_f h69
               have w : pAgain g len (some F) n b a = .error er := by
                 show xbn (pNum g len 0 61 a) _ = _
                 rw [e1, xbn_ok, e3, xbn_ok, e4, xbn_err]
               exact ⟨by rw [w]; rfl, A3.perr h4.1 e4 w, fun q hq => by rw [w] at hq; cases hq⟩)
            | (obtain ⟨er, e5⟩ := okB_f h78
               have w : pAgain g len (some F) n b a = .error er := by
                 show xbn (pNum g len 0 61 a) _ = _
                 rw [e1, xbn_ok, e3, xbn_ok, e4, xbn_ok, e5, xbn_err]
               exact ⟨by rw [w]; rfl, A4.err q5 e5 w, fun q hq => by rw [w] at hq; cases hq⟩)
        · obtain ⟨r4, e4⟩ := okB_t h69
          have T4 := (h4.1.ok e4).1
          have A4 := A3.of h4.1 e4
          have W4 : WS3 x x4 n ((6, t, 0) :: r4.1) := W2.app (show WS3 (putS (xr x 1 f1) n 6 t 0) x4 (n + 1) r4.1 from (h4.2 r4 e4).fr0 rfl rfl rfl rfl)
          refine r_aload_n dX7_readAgain_72 rfl (by rfl) ?_
          refine r_bipush (v := nI 93) dX7_readAgain_73 (by decide) ?_
          refine r_callV (c_X8_take T4) mv_X8_take ml_X7_51 ⟨by omega, by decide⟩ dX7_readAgain_75 (by first | assumption | rfl) rfl rfl rfl (Nat.le_of_ble_eq_true rfl) (fun v9 x9 h9 => ?_)
          obtain ⟨rfl, h9⟩ := h9
          obtain ⟨v9, f5, e9, q5⟩ := tak_rel (x := x4) (c := 93) T4
          have q5 := q5 (by decide +kernel)
          refine PW.topi (congrArg bI v9) ?_
          refine PW.xeq (h9.trans e9) ?_
          clear h9 x9 v9 e9
          refine r_if_neB (tgt := 83) dX7_readAgain_78 (by decide) (fun h78 => ?_) (fun h78 => ?_)
          · obtain ⟨a3, e5⟩ := okB_t h78
            have T5 : TP (xr x4 1 f5) g len a3 := q5.tp T4 e5
            have A5 : AC SS x (xr x4 1 f5) := A4.pf q5 e5
            refine r_iload dX7_readAgain_83 (by rfl) ?_
            refine r_aload_n dX7_readAgain_85 rfl (by rfl) ?_
            refine gf_X7_18 rfl dX7_readAgain_86 (by first | assumption | rfl) (by rfl) ?_
            refine r_alen dX7_readAgain_89 (by first | assumption | rfl) (by decide) rfl ?_
            refine r_icmp_geN (tgt := 104) dX7_readAgain_90 (by decide) (by omega) (by omega) (fun h90 => by exfalso; omega) (fun _ => ?_)
            refine r_aload_n dX7_readAgain_93 rfl (by rfl) ?_
            refine gf_X7_18 rfl dX7_readAgain_94 (by first | assumption | rfl) (by rfl) ?_
            refine r_iload dX7_readAgain_97 (by rfl) ?_
            refine r_aload_n dX7_readAgain_99 rfl (by rfl) ?_
            refine gf_X7_21 rfl dX7_readAgain_100 (by first | assumption | rfl) (by rfl) ?_
            refine PW.topi (show _ = nI (n + 1 + r4.1.length) from W4.1.trans (by show nI (n + (r4.1.length + 1)) = _; congr 1; omega)) ?_
            refine r_iastN dX7_readAgain_103 (by first | assumption | rfl) (by omega) (by decide) ?_
            refine r_iconst (v := nI 1) dX7_readAgain_104 (by decide) ?_
            refine r_zret rfl (by first | exact bI_01 _ | exact Or.inl rfl | exact Or.inr rfl) dX7_readAgain_105 ?_
            have w : pAgain g len (some F) n b a = .ok ((6, t, n + 1 + r4.1.length) :: r4.1, a3) := by
              show xbn (pNum g len 0 61 a) _ = _
              rw [e1, xbn_ok, e3, xbn_ok, e4, xbn_ok, e5, xbn_ok]
            refine ⟨by rw [w]; rfl, (A5.puts (SS_ (by decide) (by decide)) (by decide)).fin (q := ((6, t, n + 1 + r4.1.length) :: r4.1, a3)) (show TP _ g len a3 from T5) w, fun q hq => ?_⟩
            rw [w] at hq
            injection hq with hq
            subst hq
            exact W4.again rfl rfl rfl rfl
          · refine r_iconst (v := nI 0) dX7_readAgain_81 (by decide) ?_
            refine r_zret rfl (by first | exact bI_01 _ | exact Or.inl rfl | exact Or.inr rfl) dX7_readAgain_82 ?_
            first
              | (obtain ⟨er, e3⟩ := okB_f h57
                 have w : pAgain g len (some F) n b a = .error er := by
                   show xbn (pNum g len 0 61 a) _ = _
                   rw [e1, xbn_ok, e3, xbn_err]
                 exact ⟨by rw [w]; rfl, A2.err q3 e3 w, fun q hq => by rw [w] at hq; cases hq⟩)
              | (obtain ⟨er, e4⟩ := okB_f h69
                 have w : pAgain g len (some F) n b a = .error er := by
                   show xbn (pNum g len 0 61 a) _ = _
                   rw [e1, xbn_ok, e3, xbn_ok, e4, xbn_err]
                 exact ⟨by rw [w]; rfl, A3.perr h4.1 e4 w, fun q hq => by rw [w] at hq; cases hq⟩)
              | (obtain ⟨er, e5⟩ := okB_f h78
                 have w : pAgain g len (some F) n b a = .error er := by
                   show xbn (pNum g len 0 61 a) _ = _
                   rw [e1, xbn_ok, e3, xbn_ok, e4, xbn_ok, e5, xbn_err]
                 exact ⟨by rw [w]; rfl, A4.err q5 e5 w, fun q hq => by rw [w] at hq; cases hq⟩)
  · refine r_aload_n dX7_readAgain_6 rfl (by rfl) ?_
    refine r_iconst (v := nI 3) dX7_readAgain_7 (by decide) ?_
    refine r_aload_n dX7_readAgain_8 rfl (by rfl) ?_
    refine gf_X7_76 rfl dX7_readAgain_9 (by first | assumption | rfl) (by rfl) ?_
    refine PW.topi hb ?_
    refine r_callV c_X8_fail mv_X8_fail ml_X7_79 ⟨by omega, by decide⟩ dX7_readAgain_12 (by first | assumption | rfl) rfl rfl rfl (Nat.le_of_ble_eq_true rfl) (fun v9 x9 h9 => ?_)
    obtain ⟨rfl, h9⟩ := h9
    refine PW.xeq h9 ?_
    clear h9 x9
    refine r_zret rfl (by first | exact bI_01 _ | exact Or.inl rfl | exact Or.inr rfl) dX7_readAgain_15 ?_
    obtain ⟨rfl, _⟩ : s = none ∧ 6 ≤ op := by
      rcases hs with q | ⟨_, _, q, _⟩
      · exact q
      · omega
    have w : pAgain g len none n b a = .error (3, b) := rfl
    exact ⟨by rw [w]; rfl, AC.rfl.fail w, fun q hq => by rw [w] at hq; cases hq⟩
theorem word2_cases (g : Nat → Nat) (len a : Nat) : pI (pWord g len 2 a) = -1 ∨ wrd g len 2 a = some 0 ∨ wrd g len 2 a = some 1 ∨ wrd g len 2 a = some 2 ∨ wrd g len 2 a = some 3 ∨ wrd g len 2 a = some 4 ∨ wrd g len 2 a = some 5 ∨ wrd g len 2 a = some 6 := by
  cases h : wrd g len 2 a with
  | none => left; unfold pWord; rw [h]; rfl
  | some w =>
    right
    have := w2_lt h
    have h7 : w = 0 ∨ w = 1 ∨ w = 2 ∨ w = 3 ∨ w = 4 ∨ w = 5 ∨ w = 6 := by omega
    rcases h7 with rfl | rfl | rfl | rfl | rfl | rfl | rfl <;> simp
theorem pWord_some {g : Nat → Nat} {len i a w : Nat} (h : wrd g len i a = some w) : pWord g len i a = .ok (w, smE g len (skip g len a)) := by unfold pWord; rw [h]
theorem pair_rel {x X x1 : XS} {g : Nat → Nat} {len ns m n k e : Nat} {f : Nat → Int32} (A : AC SS x X) (T : TP X g len e) (h39 : X 39 = x 39) (h40 : X 40 = x 40) (h41 : X 41 = x 41) (h42 : X 42 = x 42) (q : PF X f len (pTwo g len ns n e) (fun q => q.2.2)) (h : x1 = (match pTwo g len ns n e with | .ok q => putS (xr X 1 f) m k q.1 q.2.1 | .error _ => xr X 1 f)) : okB (pTwo g len ns n e) = okB (xbn (pTwo g len ns n e) (fun q => .ok ([(k, q.1, q.2.1)], q.2.2)) : SR) ∧ PO SS x x1 g len (xbn (pTwo g len ns n e) (fun q => .ok ([(k, q.1, q.2.1)], q.2.2)) : SR) (fun q => q.2) ∧ ∀ q, (xbn (pTwo g len ns n e) (fun q => .ok ([(k, q.1, q.2.1)], q.2.2)) : SR) = .ok q → WS3 x x1 m q.1 := by
  subst h
  cases hr : pTwo g len ns n e with
  | error er => exact ⟨rfl, A.err q hr rfl, fun q hq => by cases hq⟩
  | ok r =>
    refine ⟨rfl, (putS_A (A.pf q hr)).fin (q := ([(k, r.1, r.2.1)], r.2.2)) (show TP _ g len r.2.2 from q.tp T hr) rfl, fun q2 hq => ?_⟩
    injection hq with hq
    subst hq
    exact putS_W h40 h41 h42 h39
theorem pStep_skip (g : Nat → Nat) (len ns : Nat) (s : Option (Nat → Nat → SR)) (n a : Nat) : pStep g len ns s n (skip g len a) = pStep g len ns s n a := by unfold pStep; rw [pWord_skip, skip_skip]
theorem pStepL_skip (g : Nat → Nat) (len ns : Nat) : ∀ lev n a, pStepL g len ns lev n (skip g len a) = pStepL g len ns lev n a
  | 0, n, a => pStep_skip g len ns none n a
  | lev + 1, n, a => pStep_skip g len ns _ n a
set_option maxHeartbeats 8000000 in
set_option maxRecDepth 20000 in
theorem c_X7_readStep {g : Nat → Nat} {len ns d op n a : Nat} {s : Option (Nat → Nat → SR)} {x : XS} (hl : len ≤ 150) (hns : ns ≤ 5) (hop : op ≤ 6) (hs : BS g len ns d op s) (hd : 5 ≤ d) (hT : TP x g len a) (hz : x 39 3 = nI n) (hna : n ≤ a) : MM mX7_readStep (d + 2) 0 0 [.ref 39, .ref 1, .int (nI ns), .int (nI op)] x (SPq g len (pStep g len ns s) n a x) NoT := by
  refine MM.of (by decide) (Nat.le_of_ble_eq_true rfl) ?_
  have y1 := lay_1
  have y2 := lay_2
  have y39 := lay_39
  have y40 := lay_40
  have y41 := lay_41
  have y42 := lay_42
  refine r_aload_n dX7_readStep_0 rfl (by rfl) ?_
  refine r_ldcS (i := 2) rfl dX7_readStep_1 ?_
  refine r_callV (c_X8_word (i := 2) hT (by decide)) mv_X8_word ml_X7_57 ⟨by omega, by decide⟩ dX7_readStep_3 (by first | assumption | rfl) rfl rfl rfl (Nat.le_of_ble_eq_true rfl) (fun v9 x9 h9 => ?_)
  obtain ⟨rfl, h9⟩ := h9
  obtain ⟨v9, f1, e9, q1, b1⟩ := word_rel (x := x) (i := 2) hT
  refine PW.topi v9 ?_
  refine PW.xeq (h9.trans e9) ?_
  clear h9 x9 v9 e9
  refine r_istore dX7_readStep_6 (by decide) ?_
  refine r_iload dX7_readStep_8 (by rfl) ?_
  rcases word2_cases g len a with hw0 | hw | hw | hw | hw | hw | hw | hw
  · rw [hw0]
    refine r_tableIn (tgt := 56) (off := 46) dX7_readStep_10 (by decide +kernel) (by decide +kernel) (by decide +kernel) (by decide) ?_
    refine r_iconst (v := nI 0) dX7_readStep_56 (by decide) ?_
    refine r_zret rfl (by first | exact bI_01 _ | exact Or.inl rfl | exact Or.inr rfl) dX7_readStep_57 ?_
    have hw2 := pWord_eq (by decide) hw0
    have w : pStep g len ns s n a = .error (1, skip g len a) := by
      unfold pStep
      rw [hw2, xbn_err]
    exact ⟨by rw [w]; rfl, AC.rfl.err q1 hw2 w, fun q hq => by rw [w] at hq; cases hq⟩
  · have hw2 := pWord_some hw
    have T1 : TP (xr x 1 f1) g len (smE g len (skip g len a)) := q1.tp hT hw2
    have A1 : AC SS x (xr x 1 f1) := AC.rfl.pf q1 hw2
    have g1 : a + 4 ≤ (smE g len (skip g len a)) := (pWord2_ge hw2).1
    have g2 := T1.2.2.2.1
    have wS : pStep g len ns s n a = pOne g len ns s n (skip g len a) 0 (smE g len (skip g len a)) := by unfold pStep; rw [hw2, xbn_ok]
    rw [show pI (pWord g len 2 a) = nI 0 by rw [hw2]; rfl]
    refine r_tableIn (tgt := 58) (off := 48) dX7_readStep_10 (by decide +kernel) (by decide +kernel) (by decide +kernel) (by decide) ?_
    refine r_aload_n dX7_readStep_58 rfl (by rfl) ?_
    refine r_aload_n dX7_readStep_59 rfl (by rfl) ?_
    refine r_iload dX7_readStep_60 (by rfl) ?_
    refine r_iload_n dX7_readStep_62 rfl (by rfl) ?_
    refine r_iload_n dX7_readStep_63 rfl (by rfl) ?_
    refine r_iconst (v := nI 1) dX7_readStep_64 (by decide) ?_
    refine r_isub dX7_readStep_65 ?_
    refine r_callV (c_X7_readPair (x := (xr x 1 f1)) (n := ns) T1 hz (by omega) hns (by omega) rfl) mv_X7_readPair ml_X7_61 ⟨by omega, by decide⟩ dX7_readStep_66 (by first | assumption | rfl) rfl rfl rfl (Nat.le_of_ble_eq_true rfl) (fun v9 x9 h9 => ?_)
    obtain ⟨rfl, h9⟩ := h9
    refine r_zret rfl (by first | exact bI_01 _ | exact Or.inl rfl | exact Or.inr rfl) dX7_readStep_69 ?_
    obtain ⟨f9, q9, h9⟩ := h9
    have w9 := pair_rel A1 T1 rfl rfl rfl rfl q9 h9
    rw [show SPq g len (pStep g len ns s) n a x = _ from rfl]
    unfold SPq
    rw [wS]
    exact ⟨by rw [w9.1]; rfl, w9.2.1, w9.2.2⟩
  · have hw2 := pWord_some hw
    have T1 : TP (xr x 1 f1) g len (smE g len (skip g len a)) := q1.tp hT hw2
    have A1 : AC SS x (xr x 1 f1) := AC.rfl.pf q1 hw2
    have g1 : a + 4 ≤ (smE g len (skip g len a)) := (pWord2_ge hw2).1
    have g2 := T1.2.2.2.1
    have wS : pStep g len ns s n a = pOne g len ns s n (skip g len a) 1 (smE g len (skip g len a)) := by unfold pStep; rw [hw2, xbn_ok]
    rw [show pI (pWord g len 2 a) = nI 1 by rw [hw2]; rfl]
    refine r_tableIn (tgt := 98) (off := 88) dX7_readStep_10 (by decide +kernel) (by decide +kernel) (by decide +kernel) (by decide) ?_
    refine r_aload_n dX7_readStep_98 rfl (by rfl) ?_
    refine r_iconst (v := nI 0) dX7_readStep_99 (by decide) ?_
    refine r_iload_n dX7_readStep_100 rfl (by rfl) ?_
    refine r_iconst (v := nI 1) dX7_readStep_101 (by decide) ?_
    refine r_isub dX7_readStep_102 ?_
    refine r_callV (c_X8_number T1 (by decide)) mv_X8_number ml_X7_72 ⟨by omega, by decide⟩ dX7_readStep_103 (by first | assumption | rfl) rfl rfl rfl (Nat.le_of_ble_eq_true rfl) (fun v9 x9 h9 => ?_)
    obtain ⟨rfl, h9⟩ := h9
    obtain ⟨v9, f2, e9, q2, b2⟩ := num_rel (x := (xr x 1 f1)) (lo := 0) (n := ns) T1 (by decide) (by omega) rfl
    refine PW.topi v9 ?_
    refine PW.xeq (h9.trans e9) ?_
    clear h9 x9 v9 e9
    refine r_istore dX7_readStep_106 (by decide) ?_
    refine r_iload dX7_readStep_108 (by rfl) ?_
    refine r_iconst (v := -1) dX7_readStep_110 (by decide) ?_
    refine r_icmp_eq (tgt := 130) dX7_readStep_111 (by decide) (fun h111 => ?_) (fun h111 => ?_)
    · refine r_iconst (v := nI 0) dX7_readStep_130 (by decide) ?_
      refine r_zret rfl (by first | exact bI_01 _ | exact Or.inl rfl | exact Or.inr rfl) dX7_readStep_131 ?_
      first
        | (obtain ⟨er, e2⟩ := pI_eq (by omega) h111
           have w : pStep g len ns s n a = .error er := by
             rw [wS]
             show xbn (pNum g len 0 ns (smE g len (skip g len a))) _ = _
             rw [e2, xbn_err]
           exact ⟨by rw [w]; rfl, A1.err q2 e2 w, fun q hq => by rw [w] at hq; cases hq⟩)
        | exact Bool.noConfusion (show true = false from h123)
        | (have w : pStep g len ns s n a = .ok ([(1, p, 0)], a2) := by
             rw [wS]
             show xbn (pNum g len 0 ns (smE g len (skip g len a))) _ = _
             rw [e2, xbn_ok]
           refine ⟨by rw [w]; rfl, (putS_A (A1.pf q2 e2)).fin (q := ([(1, p, 0)], a2)) (show TP _ g len a2 from q2.tp T1 e2) w, fun q hq => ?_⟩
           rw [w] at hq
           injection hq with hq
           subst hq
           exact putS_W rfl rfl rfl rfl)
        | (have w : pStep g len ns s n a = .ok ([(2, p, 0)], a2) := by
             rw [wS]
             show xbn (pNum g len 0 ns (smE g len (skip g len a))) _ = _
             rw [e2, xbn_ok]
           refine ⟨by rw [w]; rfl, (putS_A (A1.pf q2 e2)).fin (q := ([(2, p, 0)], a2)) (show TP _ g len a2 from q2.tp T1 e2) w, fun q hq => ?_⟩
           rw [w] at hq
           injection hq with hq
           subst hq
           exact putS_W rfl rfl rfl rfl)
        | (have w : pStep g len ns s n a = .ok ([(4, p, 0)], a2) := by
             rw [wS]
             show xbn (pNum g len 0 ns (smE g len (skip g len a))) _ = _
             rw [e2, xbn_ok]
           refine ⟨by rw [w]; rfl, (putS_A (A1.pf q2 e2)).fin (q := ([(4, p, 0)], a2)) (show TP _ g len a2 from q2.tp T1 e2) w, fun q hq => ?_⟩
           rw [w] at hq
           injection hq with hq
           subst hq
           exact putS_W rfl rfl rfl rfl)
    · obtain ⟨p, a2, e2, hp⟩ := pI_ne h111
      rw [show pI (pNum g len 0 ns (smE g len (skip g len a))) = nI p by rw [e2]; rfl]
      refine r_aload_n dX7_readStep_114 rfl (by rfl) ?_
      refine r_iload dX7_readStep_115 (by rfl) ?_
      refine r_iload dX7_readStep_117 (by rfl) ?_
      refine r_iconst (v := nI 0) dX7_readStep_119 (by decide) ?_
      refine r_callV (c_X7_put (x := (xr (xr x 1 f1) 1 f2)) (t := 0) hz (by omega)) mv_X7_put ml_X7_68 ⟨by omega, by decide⟩ dX7_readStep_120 (by first | assumption | rfl) rfl rfl rfl (Nat.le_of_ble_eq_true rfl) (fun v9 x9 h9 => ?_)
      obtain ⟨rfl, h9⟩ := h9
      refine PW.xeq h9 ?_
      clear h9 x9
      refine r_if_eqB (tgt := 130) dX7_readStep_123 (by decide) (fun h123 => ?_) (fun h123 => ?_)
      · refine r_iconst (v := nI 0) dX7_readStep_130 (by decide) ?_
        refine r_zret rfl (by first | exact bI_01 _ | exact Or.inl rfl | exact Or.inr rfl) dX7_readStep_131 ?_
        first
          | (obtain ⟨er, e2⟩ := pI_eq (by omega) h111
             have w : pStep g len ns s n a = .error er := by
               rw [wS]
               show xbn (pNum g len 0 ns (smE g len (skip g len a))) _ = _
               rw [e2, xbn_err]
             exact ⟨by rw [w]; rfl, A1.err q2 e2 w, fun q hq => by rw [w] at hq; cases hq⟩)
          | exact Bool.noConfusion (show true = false from h123)
          | (have w : pStep g len ns s n a = .ok ([(1, p, 0)], a2) := by
               rw [wS]
               show xbn (pNum g len 0 ns (smE g len (skip g len a))) _ = _
               rw [e2, xbn_ok]
             refine ⟨by rw [w]; rfl, (putS_A (A1.pf q2 e2)).fin (q := ([(1, p, 0)], a2)) (show TP _ g len a2 from q2.tp T1 e2) w, fun q hq => ?_⟩
             rw [w] at hq
             injection hq with hq
             subst hq
             exact putS_W rfl rfl rfl rfl)
          | (have w : pStep g len ns s n a = .ok ([(2, p, 0)], a2) := by
               rw [wS]
               show xbn (pNum g len 0 ns (smE g len (skip g len a))) _ = _
               rw [e2, xbn_ok]
             refine ⟨by rw [w]; rfl, (putS_A (A1.pf q2 e2)).fin (q := ([(2, p, 0)], a2)) (show TP _ g len a2 from q2.tp T1 e2) w, fun q hq => ?_⟩
             rw [w] at hq
             injection hq with hq
             subst hq
             exact putS_W rfl rfl rfl rfl)
          | (have w : pStep g len ns s n a = .ok ([(4, p, 0)], a2) := by
               rw [wS]
               show xbn (pNum g len 0 ns (smE g len (skip g len a))) _ = _
               rw [e2, xbn_ok]
             refine ⟨by rw [w]; rfl, (putS_A (A1.pf q2 e2)).fin (q := ([(4, p, 0)], a2)) (show TP _ g len a2 from q2.tp T1 e2) w, fun q hq => ?_⟩
             rw [w] at hq
             injection hq with hq
             subst hq
             exact putS_W rfl rfl rfl rfl)
      · refine r_iconst (v := nI 1) dX7_readStep_126 (by decide) ?_
        refine r_goto (tgt := 131) dX7_readStep_127 (by decide) ?_
        refine r_zret rfl (by first | exact bI_01 _ | exact Or.inl rfl | exact Or.inr rfl) dX7_readStep_131 ?_
        first
          | (obtain ⟨er, e2⟩ := pI_eq (by omega) h111
             have w : pStep g len ns s n a = .error er := by
               rw [wS]
               show xbn (pNum g len 0 ns (smE g len (skip g len a))) _ = _
               rw [e2, xbn_err]
             exact ⟨by rw [w]; rfl, A1.err q2 e2 w, fun q hq => by rw [w] at hq; cases hq⟩)
          | exact Bool.noConfusion (show true = false from h123)
          | (have w : pStep g len ns s n a = .ok ([(1, p, 0)], a2) := by
               rw [wS]
               show xbn (pNum g len 0 ns (smE g len (skip g len a))) _ = _
               rw [e2, xbn_ok]
             refine ⟨by rw [w]; rfl, (putS_A (A1.pf q2 e2)).fin (q := ([(1, p, 0)], a2)) (show TP _ g len a2 from q2.tp T1 e2) w, fun q hq => ?_⟩
             rw [w] at hq
             injection hq with hq
             subst hq
             exact putS_W rfl rfl rfl rfl)
          | (have w : pStep g len ns s n a = .ok ([(2, p, 0)], a2) := by
               rw [wS]
               show xbn (pNum g len 0 ns (smE g len (skip g len a))) _ = _
               rw [e2, xbn_ok]
             refine ⟨by rw [w]; rfl, (putS_A (A1.pf q2 e2)).fin (q := ([(2, p, 0)], a2)) (show TP _ g len a2 from q2.tp T1 e2) w, fun q hq => ?_⟩
             rw [w] at hq
             injection hq with hq
             subst hq
             exact putS_W rfl rfl rfl rfl)
          | (have w : pStep g len ns s n a = .ok ([(4, p, 0)], a2) := by
               rw [wS]
               show xbn (pNum g len 0 ns (smE g len (skip g len a))) _ = _
               rw [e2, xbn_ok]
             refine ⟨by rw [w]; rfl, (putS_A (A1.pf q2 e2)).fin (q := ([(4, p, 0)], a2)) (show TP _ g len a2 from q2.tp T1 e2) w, fun q hq => ?_⟩
             rw [w] at hq
             injection hq with hq
             subst hq
             exact putS_W rfl rfl rfl rfl)
  · have hw2 := pWord_some hw
    have T1 : TP (xr x 1 f1) g len (smE g len (skip g len a)) := q1.tp hT hw2
    have A1 : AC SS x (xr x 1 f1) := AC.rfl.pf q1 hw2
    have g1 : a + 4 ≤ (smE g len (skip g len a)) := (pWord2_ge hw2).1
    have g2 := T1.2.2.2.1
    have wS : pStep g len ns s n a = pOne g len ns s n (skip g len a) 2 (smE g len (skip g len a)) := by unfold pStep; rw [hw2, xbn_ok]
    rw [show pI (pWord g len 2 a) = nI 2 by rw [hw2]; rfl]
    refine r_tableIn (tgt := 98) (off := 88) dX7_readStep_10 (by decide +kernel) (by decide +kernel) (by decide +kernel) (by decide) ?_
    refine r_aload_n dX7_readStep_98 rfl (by rfl) ?_
    refine r_iconst (v := nI 0) dX7_readStep_99 (by decide) ?_
    refine r_iload_n dX7_readStep_100 rfl (by rfl) ?_
    refine r_iconst (v := nI 1) dX7_readStep_101 (by decide) ?_
    refine r_isub dX7_readStep_102 ?_
    refine r_callV (c_X8_number T1 (by decide)) mv_X8_number ml_X7_72 ⟨by omega, by decide⟩ dX7_readStep_103 (by first | assumption | rfl) rfl rfl rfl (Nat.le_of_ble_eq_true rfl) (fun v9 x9 h9 => ?_)
    obtain ⟨rfl, h9⟩ := h9
    obtain ⟨v9, f2, e9, q2, b2⟩ := num_rel (x := (xr x 1 f1)) (lo := 0) (n := ns) T1 (by decide) (by omega) rfl
    refine PW.topi v9 ?_
    refine PW.xeq (h9.trans e9) ?_
    clear h9 x9 v9 e9
    refine r_istore dX7_readStep_106 (by decide) ?_
    refine r_iload dX7_readStep_108 (by rfl) ?_
    refine r_iconst (v := -1) dX7_readStep_110 (by decide) ?_
    refine r_icmp_eq (tgt := 130) dX7_readStep_111 (by decide) (fun h111 => ?_) (fun h111 => ?_)
    · refine r_iconst (v := nI 0) dX7_readStep_130 (by decide) ?_
      refine r_zret rfl (by first | exact bI_01 _ | exact Or.inl rfl | exact Or.inr rfl) dX7_readStep_131 ?_
      first
        | (obtain ⟨er, e2⟩ := pI_eq (by omega) h111
           have w : pStep g len ns s n a = .error er := by
             rw [wS]
             show xbn (pNum g len 0 ns (smE g len (skip g len a))) _ = _
             rw [e2, xbn_err]
           exact ⟨by rw [w]; rfl, A1.err q2 e2 w, fun q hq => by rw [w] at hq; cases hq⟩)
        | exact Bool.noConfusion (show true = false from h123)
        | (have w : pStep g len ns s n a = .ok ([(1, p, 0)], a2) := by
             rw [wS]
             show xbn (pNum g len 0 ns (smE g len (skip g len a))) _ = _
             rw [e2, xbn_ok]
           refine ⟨by rw [w]; rfl, (putS_A (A1.pf q2 e2)).fin (q := ([(1, p, 0)], a2)) (show TP _ g len a2 from q2.tp T1 e2) w, fun q hq => ?_⟩
           rw [w] at hq
           injection hq with hq
           subst hq
           exact putS_W rfl rfl rfl rfl)
        | (have w : pStep g len ns s n a = .ok ([(2, p, 0)], a2) := by
             rw [wS]
             show xbn (pNum g len 0 ns (smE g len (skip g len a))) _ = _
             rw [e2, xbn_ok]
           refine ⟨by rw [w]; rfl, (putS_A (A1.pf q2 e2)).fin (q := ([(2, p, 0)], a2)) (show TP _ g len a2 from q2.tp T1 e2) w, fun q hq => ?_⟩
           rw [w] at hq
           injection hq with hq
           subst hq
           exact putS_W rfl rfl rfl rfl)
        | (have w : pStep g len ns s n a = .ok ([(4, p, 0)], a2) := by
             rw [wS]
             show xbn (pNum g len 0 ns (smE g len (skip g len a))) _ = _
             rw [e2, xbn_ok]
           refine ⟨by rw [w]; rfl, (putS_A (A1.pf q2 e2)).fin (q := ([(4, p, 0)], a2)) (show TP _ g len a2 from q2.tp T1 e2) w, fun q hq => ?_⟩
           rw [w] at hq
           injection hq with hq
           subst hq
           exact putS_W rfl rfl rfl rfl)
    · obtain ⟨p, a2, e2, hp⟩ := pI_ne h111
      rw [show pI (pNum g len 0 ns (smE g len (skip g len a))) = nI p by rw [e2]; rfl]
      refine r_aload_n dX7_readStep_114 rfl (by rfl) ?_
      refine r_iload dX7_readStep_115 (by rfl) ?_
      refine r_iload dX7_readStep_117 (by rfl) ?_
      refine r_iconst (v := nI 0) dX7_readStep_119 (by decide) ?_
      refine r_callV (c_X7_put (x := (xr (xr x 1 f1) 1 f2)) (t := 0) hz (by omega)) mv_X7_put ml_X7_68 ⟨by omega, by decide⟩ dX7_readStep_120 (by first | assumption | rfl) rfl rfl rfl (Nat.le_of_ble_eq_true rfl) (fun v9 x9 h9 => ?_)
      obtain ⟨rfl, h9⟩ := h9
      refine PW.xeq h9 ?_
      clear h9 x9
      refine r_if_eqB (tgt := 130) dX7_readStep_123 (by decide) (fun h123 => ?_) (fun h123 => ?_)
      · refine r_iconst (v := nI 0) dX7_readStep_130 (by decide) ?_
        refine r_zret rfl (by first | exact bI_01 _ | exact Or.inl rfl | exact Or.inr rfl) dX7_readStep_131 ?_
        first
          | (obtain ⟨er, e2⟩ := pI_eq (by omega) h111
             have w : pStep g len ns s n a = .error er := by
               rw [wS]
               show xbn (pNum g len 0 ns (smE g len (skip g len a))) _ = _
               rw [e2, xbn_err]
             exact ⟨by rw [w]; rfl, A1.err q2 e2 w, fun q hq => by rw [w] at hq; cases hq⟩)
          | exact Bool.noConfusion (show true = false from h123)
          | (have w : pStep g len ns s n a = .ok ([(1, p, 0)], a2) := by
               rw [wS]
               show xbn (pNum g len 0 ns (smE g len (skip g len a))) _ = _
               rw [e2, xbn_ok]
             refine ⟨by rw [w]; rfl, (putS_A (A1.pf q2 e2)).fin (q := ([(1, p, 0)], a2)) (show TP _ g len a2 from q2.tp T1 e2) w, fun q hq => ?_⟩
             rw [w] at hq
             injection hq with hq
             subst hq
             exact putS_W rfl rfl rfl rfl)
          | (have w : pStep g len ns s n a = .ok ([(2, p, 0)], a2) := by
               rw [wS]
               show xbn (pNum g len 0 ns (smE g len (skip g len a))) _ = _
               rw [e2, xbn_ok]
             refine ⟨by rw [w]; rfl, (putS_A (A1.pf q2 e2)).fin (q := ([(2, p, 0)], a2)) (show TP _ g len a2 from q2.tp T1 e2) w, fun q hq => ?_⟩
             rw [w] at hq
             injection hq with hq
             subst hq
             exact putS_W rfl rfl rfl rfl)
          | (have w : pStep g len ns s n a = .ok ([(4, p, 0)], a2) := by
               rw [wS]
               show xbn (pNum g len 0 ns (smE g len (skip g len a))) _ = _
               rw [e2, xbn_ok]
             refine ⟨by rw [w]; rfl, (putS_A (A1.pf q2 e2)).fin (q := ([(4, p, 0)], a2)) (show TP _ g len a2 from q2.tp T1 e2) w, fun q hq => ?_⟩
             rw [w] at hq
             injection hq with hq
             subst hq
             exact putS_W rfl rfl rfl rfl)
      · refine r_iconst (v := nI 1) dX7_readStep_126 (by decide) ?_
        refine r_goto (tgt := 131) dX7_readStep_127 (by decide) ?_
        refine r_zret rfl (by first | exact bI_01 _ | exact Or.inl rfl | exact Or.inr rfl) dX7_readStep_131 ?_
        first
          | (obtain ⟨er, e2⟩ := pI_eq (by omega) h111
             have w : pStep g len ns s n a = .error er := by
               rw [wS]
               show xbn (pNum g len 0 ns (smE g len (skip g len a))) _ = _
               rw [e2, xbn_err]
             exact ⟨by rw [w]; rfl, A1.err q2 e2 w, fun q hq => by rw [w] at hq; cases hq⟩)
          | exact Bool.noConfusion (show true = false from h123)
          | (have w : pStep g len ns s n a = .ok ([(1, p, 0)], a2) := by
               rw [wS]
               show xbn (pNum g len 0 ns (smE g len (skip g len a))) _ = _
               rw [e2, xbn_ok]
             refine ⟨by rw [w]; rfl, (putS_A (A1.pf q2 e2)).fin (q := ([(1, p, 0)], a2)) (show TP _ g len a2 from q2.tp T1 e2) w, fun q hq => ?_⟩
             rw [w] at hq
             injection hq with hq
             subst hq
             exact putS_W rfl rfl rfl rfl)
          | (have w : pStep g len ns s n a = .ok ([(2, p, 0)], a2) := by
               rw [wS]
               show xbn (pNum g len 0 ns (smE g len (skip g len a))) _ = _
               rw [e2, xbn_ok]
             refine ⟨by rw [w]; rfl, (putS_A (A1.pf q2 e2)).fin (q := ([(2, p, 0)], a2)) (show TP _ g len a2 from q2.tp T1 e2) w, fun q hq => ?_⟩
             rw [w] at hq
             injection hq with hq
             subst hq
             exact putS_W rfl rfl rfl rfl)
          | (have w : pStep g len ns s n a = .ok ([(4, p, 0)], a2) := by
               rw [wS]
               show xbn (pNum g len 0 ns (smE g len (skip g len a))) _ = _
               rw [e2, xbn_ok]
             refine ⟨by rw [w]; rfl, (putS_A (A1.pf q2 e2)).fin (q := ([(4, p, 0)], a2)) (show TP _ g len a2 from q2.tp T1 e2) w, fun q hq => ?_⟩
             rw [w] at hq
             injection hq with hq
             subst hq
             exact putS_W rfl rfl rfl rfl)
  · have hw2 := pWord_some hw
    have T1 : TP (xr x 1 f1) g len (smE g len (skip g len a)) := q1.tp hT hw2
    have A1 : AC SS x (xr x 1 f1) := AC.rfl.pf q1 hw2
    have g1 : a + 4 ≤ (smE g len (skip g len a)) := (pWord2_ge hw2).1
    have g2 := T1.2.2.2.1
    have wS : pStep g len ns s n a = pOne g len ns s n (skip g len a) 3 (smE g len (skip g len a)) := by unfold pStep; rw [hw2, xbn_ok]
    rw [show pI (pWord g len 2 a) = nI 3 by rw [hw2]; rfl]
    refine r_tableIn (tgt := 70) (off := 60) dX7_readStep_10 (by decide +kernel) (by decide +kernel) (by decide +kernel) (by decide) ?_
    refine r_aload_n dX7_readStep_70 rfl (by rfl) ?_
    refine r_aload_n dX7_readStep_71 rfl (by rfl) ?_
    refine r_iload dX7_readStep_72 (by rfl) ?_
    refine r_iload_n dX7_readStep_74 rfl (by rfl) ?_
    refine r_bipush (v := nI 20) dX7_readStep_75 (by decide) ?_
    refine r_callV (c_X7_readPair (x := (xr x 1 f1)) (n := 21) T1 hz (by omega) hns (by decide) (by decide +kernel)) mv_X7_readPair ml_X7_61 ⟨by omega, by decide⟩ dX7_readStep_77 (by first | assumption | rfl) rfl rfl rfl (Nat.le_of_ble_eq_true rfl) (fun v9 x9 h9 => ?_)
    obtain ⟨rfl, h9⟩ := h9
    refine r_zret rfl (by first | exact bI_01 _ | exact Or.inl rfl | exact Or.inr rfl) dX7_readStep_80 ?_
    obtain ⟨f9, q9, h9⟩ := h9
    have w9 := pair_rel A1 T1 rfl rfl rfl rfl q9 h9
    rw [show SPq g len (pStep g len ns s) n a x = _ from rfl]
    unfold SPq
    rw [wS]
    exact ⟨by rw [w9.1]; rfl, w9.2.1, w9.2.2⟩
  · have hw2 := pWord_some hw
    have T1 : TP (xr x 1 f1) g len (smE g len (skip g len a)) := q1.tp hT hw2
    have A1 : AC SS x (xr x 1 f1) := AC.rfl.pf q1 hw2
    have g1 : a + 4 ≤ (smE g len (skip g len a)) := (pWord2_ge hw2).1
    have g2 := T1.2.2.2.1
    have wS : pStep g len ns s n a = pOne g len ns s n (skip g len a) 4 (smE g len (skip g len a)) := by unfold pStep; rw [hw2, xbn_ok]
    rw [show pI (pWord g len 2 a) = nI 4 by rw [hw2]; rfl]
    refine r_tableIn (tgt := 98) (off := 88) dX7_readStep_10 (by decide +kernel) (by decide +kernel) (by decide +kernel) (by decide) ?_
    refine r_aload_n dX7_readStep_98 rfl (by rfl) ?_
    refine r_iconst (v := nI 0) dX7_readStep_99 (by decide) ?_
    refine r_iload_n dX7_readStep_100 rfl (by rfl) ?_
    refine r_iconst (v := nI 1) dX7_readStep_101 (by decide) ?_
    refine r_isub dX7_readStep_102 ?_
    refine r_callV (c_X8_number T1 (by decide)) mv_X8_number ml_X7_72 ⟨by omega, by decide⟩ dX7_readStep_103 (by first | assumption | rfl) rfl rfl rfl (Nat.le_of_ble_eq_true rfl) (fun v9 x9 h9 => ?_)
    obtain ⟨rfl, h9⟩ := h9
    obtain ⟨v9, f2, e9, q2, b2⟩ := num_rel (x := (xr x 1 f1)) (lo := 0) (n := ns) T1 (by decide) (by omega) rfl
    refine PW.topi v9 ?_
    refine PW.xeq (h9.trans e9) ?_
    clear h9 x9 v9 e9
    refine r_istore dX7_readStep_106 (by decide) ?_
    refine r_iload dX7_readStep_108 (by rfl) ?_
    refine r_iconst (v := -1) dX7_readStep_110 (by decide) ?_
    refine r_icmp_eq (tgt := 130) dX7_readStep_111 (by decide) (fun h111 => ?_) (fun h111 => ?_)
    · refine r_iconst (v := nI 0) dX7_readStep_130 (by decide) ?_
      refine r_zret rfl (by first | exact bI_01 _ | exact Or.inl rfl | exact Or.inr rfl) dX7_readStep_131 ?_
      first
        | (obtain ⟨er, e2⟩ := pI_eq (by omega) h111
           have w : pStep g len ns s n a = .error er := by
             rw [wS]
             show xbn (pNum g len 0 ns (smE g len (skip g len a))) _ = _
             rw [e2, xbn_err]
           exact ⟨by rw [w]; rfl, A1.err q2 e2 w, fun q hq => by rw [w] at hq; cases hq⟩)
        | exact Bool.noConfusion (show true = false from h123)
        | (have w : pStep g len ns s n a = .ok ([(1, p, 0)], a2) := by
             rw [wS]
             show xbn (pNum g len 0 ns (smE g len (skip g len a))) _ = _
             rw [e2, xbn_ok]
           refine ⟨by rw [w]; rfl, (putS_A (A1.pf q2 e2)).fin (q := ([(1, p, 0)], a2)) (show TP _ g len a2 from q2.tp T1 e2) w, fun q hq => ?_⟩
           rw [w] at hq
           injection hq with hq
           subst hq
           exact putS_W rfl rfl rfl rfl)
        | (have w : pStep g len ns s n a = .ok ([(2, p, 0)], a2) := by
             rw [wS]
             show xbn (pNum g len 0 ns (smE g len (skip g len a))) _ = _
             rw [e2, xbn_ok]
           refine ⟨by rw [w]; rfl, (putS_A (A1.pf q2 e2)).fin (q := ([(2, p, 0)], a2)) (show TP _ g len a2 from q2.tp T1 e2) w, fun q hq => ?_⟩
           rw [w] at hq
           injection hq with hq
           subst hq
           exact putS_W rfl rfl rfl rfl)
        | (have w : pStep g len ns s n a = .ok ([(4, p, 0)], a2) := by
             rw [wS]
             show xbn (pNum g len 0 ns (smE g len (skip g len a))) _ = _
             rw [e2, xbn_ok]
           refine ⟨by rw [w]; rfl, (putS_A (A1.pf q2 e2)).fin (q := ([(4, p, 0)], a2)) (show TP _ g len a2 from q2.tp T1 e2) w, fun q hq => ?_⟩
           rw [w] at hq
           injection hq with hq
           subst hq
           exact putS_W rfl rfl rfl rfl)
    · obtain ⟨p, a2, e2, hp⟩ := pI_ne h111
      rw [show pI (pNum g len 0 ns (smE g len (skip g len a))) = nI p by rw [e2]; rfl]
      refine r_aload_n dX7_readStep_114 rfl (by rfl) ?_
      refine r_iload dX7_readStep_115 (by rfl) ?_
      refine r_iload dX7_readStep_117 (by rfl) ?_
      refine r_iconst (v := nI 0) dX7_readStep_119 (by decide) ?_
      refine r_callV (c_X7_put (x := (xr (xr x 1 f1) 1 f2)) (t := 0) hz (by omega)) mv_X7_put ml_X7_68 ⟨by omega, by decide⟩ dX7_readStep_120 (by first | assumption | rfl) rfl rfl rfl (Nat.le_of_ble_eq_true rfl) (fun v9 x9 h9 => ?_)
      obtain ⟨rfl, h9⟩ := h9
      refine PW.xeq h9 ?_
      clear h9 x9
      refine r_if_eqB (tgt := 130) dX7_readStep_123 (by decide) (fun h123 => ?_) (fun h123 => ?_)
      · refine r_iconst (v := nI 0) dX7_readStep_130 (by decide) ?_
        refine r_zret rfl (by first | exact bI_01 _ | exact Or.inl rfl | exact Or.inr rfl) dX7_readStep_131 ?_
        first
          | (obtain ⟨er, e2⟩ := pI_eq (by omega) h111
             have w : pStep g len ns s n a = .error er := by
               rw [wS]
               show xbn (pNum g len 0 ns (smE g len (skip g len a))) _ = _
               rw [e2, xbn_err]
             exact ⟨by rw [w]; rfl, A1.err q2 e2 w, fun q hq => by rw [w] at hq; cases hq⟩)
          | exact Bool.noConfusion (show true = false from h123)
          | (have w : pStep g len ns s n a = .ok ([(1, p, 0)], a2) := by
               rw [wS]
               show xbn (pNum g len 0 ns (smE g len (skip g len a))) _ = _
               rw [e2, xbn_ok]
             refine ⟨by rw [w]; rfl, (putS_A (A1.pf q2 e2)).fin (q := ([(1, p, 0)], a2)) (show TP _ g len a2 from q2.tp T1 e2) w, fun q hq => ?_⟩
             rw [w] at hq
             injection hq with hq
             subst hq
             exact putS_W rfl rfl rfl rfl)
          | (have w : pStep g len ns s n a = .ok ([(2, p, 0)], a2) := by
               rw [wS]
               show xbn (pNum g len 0 ns (smE g len (skip g len a))) _ = _
               rw [e2, xbn_ok]
             refine ⟨by rw [w]; rfl, (putS_A (A1.pf q2 e2)).fin (q := ([(2, p, 0)], a2)) (show TP _ g len a2 from q2.tp T1 e2) w, fun q hq => ?_⟩
             rw [w] at hq
             injection hq with hq
             subst hq
             exact putS_W rfl rfl rfl rfl)
          | (have w : pStep g len ns s n a = .ok ([(4, p, 0)], a2) := by
               rw [wS]
               show xbn (pNum g len 0 ns (smE g len (skip g len a))) _ = _
               rw [e2, xbn_ok]
             refine ⟨by rw [w]; rfl, (putS_A (A1.pf q2 e2)).fin (q := ([(4, p, 0)], a2)) (show TP _ g len a2 from q2.tp T1 e2) w, fun q hq => ?_⟩
             rw [w] at hq
             injection hq with hq
             subst hq
             exact putS_W rfl rfl rfl rfl)
      · refine r_iconst (v := nI 1) dX7_readStep_126 (by decide) ?_
        refine r_goto (tgt := 131) dX7_readStep_127 (by decide) ?_
        refine r_zret rfl (by first | exact bI_01 _ | exact Or.inl rfl | exact Or.inr rfl) dX7_readStep_131 ?_
        first
          | (obtain ⟨er, e2⟩ := pI_eq (by omega) h111
             have w : pStep g len ns s n a = .error er := by
               rw [wS]
               show xbn (pNum g len 0 ns (smE g len (skip g len a))) _ = _
               rw [e2, xbn_err]
             exact ⟨by rw [w]; rfl, A1.err q2 e2 w, fun q hq => by rw [w] at hq; cases hq⟩)
          | exact Bool.noConfusion (show true = false from h123)
          | (have w : pStep g len ns s n a = .ok ([(1, p, 0)], a2) := by
               rw [wS]
               show xbn (pNum g len 0 ns (smE g len (skip g len a))) _ = _
               rw [e2, xbn_ok]
             refine ⟨by rw [w]; rfl, (putS_A (A1.pf q2 e2)).fin (q := ([(1, p, 0)], a2)) (show TP _ g len a2 from q2.tp T1 e2) w, fun q hq => ?_⟩
             rw [w] at hq
             injection hq with hq
             subst hq
             exact putS_W rfl rfl rfl rfl)
          | (have w : pStep g len ns s n a = .ok ([(2, p, 0)], a2) := by
               rw [wS]
               show xbn (pNum g len 0 ns (smE g len (skip g len a))) _ = _
               rw [e2, xbn_ok]
             refine ⟨by rw [w]; rfl, (putS_A (A1.pf q2 e2)).fin (q := ([(2, p, 0)], a2)) (show TP _ g len a2 from q2.tp T1 e2) w, fun q hq => ?_⟩
             rw [w] at hq
             injection hq with hq
             subst hq
             exact putS_W rfl rfl rfl rfl)
          | (have w : pStep g len ns s n a = .ok ([(4, p, 0)], a2) := by
               rw [wS]
               show xbn (pNum g len 0 ns (smE g len (skip g len a))) _ = _
               rw [e2, xbn_ok]
             refine ⟨by rw [w]; rfl, (putS_A (A1.pf q2 e2)).fin (q := ([(4, p, 0)], a2)) (show TP _ g len a2 from q2.tp T1 e2) w, fun q hq => ?_⟩
             rw [w] at hq
             injection hq with hq
             subst hq
             exact putS_W rfl rfl rfl rfl)
  · have hw2 := pWord_some hw
    have T1 : TP (xr x 1 f1) g len (smE g len (skip g len a)) := q1.tp hT hw2
    have A1 : AC SS x (xr x 1 f1) := AC.rfl.pf q1 hw2
    have g1 : a + 4 ≤ (smE g len (skip g len a)) := (pWord2_ge hw2).1
    have g2 := T1.2.2.2.1
    have wS : pStep g len ns s n a = pOne g len ns s n (skip g len a) 5 (smE g len (skip g len a)) := by unfold pStep; rw [hw2, xbn_ok]
    rw [show pI (pWord g len 2 a) = nI 5 by rw [hw2]; rfl]
    refine r_tableIn (tgt := 89) (off := 79) dX7_readStep_10 (by decide +kernel) (by decide +kernel) (by decide +kernel) (by decide) ?_
    refine r_aload_n dX7_readStep_89 rfl (by rfl) ?_
    refine r_iload dX7_readStep_90 (by rfl) ?_
    refine r_iconst (v := nI 0) dX7_readStep_92 (by decide) ?_
    refine r_iconst (v := nI 0) dX7_readStep_93 (by decide) ?_
    refine r_callV (c_X7_put (x := (xr x 1 f1)) hz (by omega)) mv_X7_put ml_X7_68 ⟨by omega, by decide⟩ dX7_readStep_94 (by first | assumption | rfl) rfl rfl rfl (Nat.le_of_ble_eq_true rfl) (fun v9 x9 h9 => ?_)
    obtain ⟨rfl, h9⟩ := h9
    refine PW.xeq h9 ?_
    clear h9 x9
    refine r_zret rfl (by first | exact bI_01 _ | exact Or.inl rfl | exact Or.inr rfl) dX7_readStep_97 ?_
    have w : pStep g len ns s n a = .ok ([(5, 0, 0)], (smE g len (skip g len a))) := wS
    refine ⟨by rw [w]; rfl, (putS_A A1).fin (q := ([(5, 0, 0)], (smE g len (skip g len a)))) (show TP _ g len (smE g len (skip g len a)) from T1) w, fun q hq => ?_⟩
    rw [w] at hq
    injection hq with hq
    subst hq
    exact putS_W rfl rfl rfl rfl
  · have hw2 := pWord_some hw
    have T1 : TP (xr x 1 f1) g len (smE g len (skip g len a)) := q1.tp hT hw2
    have A1 : AC SS x (xr x 1 f1) := AC.rfl.pf q1 hw2
    have g1 : a + 4 ≤ (smE g len (skip g len a)) := (pWord2_ge hw2).1
    have g2 := T1.2.2.2.1
    have wS : pStep g len ns s n a = pOne g len ns s n (skip g len a) 6 (smE g len (skip g len a)) := by unfold pStep; rw [hw2, xbn_ok]
    rw [show pI (pWord g len 2 a) = nI 6 by rw [hw2]; rfl]
    refine r_tableIn (tgt := 81) (off := 71) dX7_readStep_10 (by decide +kernel) (by decide +kernel) (by decide +kernel) (by decide) ?_
    refine r_aload_n dX7_readStep_81 rfl (by rfl) ?_
    refine r_aload_n dX7_readStep_82 rfl (by rfl) ?_
    refine r_iload_n dX7_readStep_83 rfl (by rfl) ?_
    refine r_iload_n dX7_readStep_84 rfl (by rfl) ?_
    refine r_callV (c_X7_readAgain (x := (xr x 1 f1)) (b := skip g len a) hl hop hs hd T1 hz (by omega) b1) mv_X7_readAgain ml_X7_65 ⟨by omega, by decide⟩ dX7_readStep_85 (by first | assumption | rfl) rfl rfl rfl (Nat.le_of_ble_eq_true rfl) (fun v9 x9 h9 => ?_)
    obtain ⟨rfl, h9⟩ := h9
    refine r_zret rfl (by first | exact bI_01 _ | exact Or.inl rfl | exact Or.inr rfl) dX7_readStep_88 ?_
    have wA : pStep g len ns s n a = pAgain g len s n (skip g len a) (smE g len (skip g len a)) := wS
    unfold SPq
    rw [wA]
    exact ⟨rfl, A1.po h9.1, fun q hq => (h9.2 q hq).fr0 rfl rfl rfl rfl⟩
set_option maxHeartbeats 8000000 in
set_option maxRecDepth 20000 in
theorem c_X7_readSteps {g : Nat → Nat} {len ns d op n a : Nat} {u : Nat → Nat → SR} {x : XS} (hl : len ≤ 150) (hd : 1 ≤ d) (hu : SPc g len ns mX7_readStep d op u) (hLen : LenS u) (hsk : ∀ n a, u n (skip g len a) = u n a) (hT : TP x g len a) (hz : x 39 3 = nI n) (hna : n ≤ a) : MM mX7_readSteps (d + 1) 0 0 [.ref 39, .ref 1, .int (nI ns), .int (nI op)] x (SPq g len (pSteps g len u 151) n a x) NoT := by
  refine MM.of (by decide) (Nat.le_of_ble_eq_true rfl) ?_
  have y1 := lay_1
  have y2 := lay_2
  have y39 := lay_39
  have y40 := lay_40
  have y41 := lay_41
  have y42 := lay_42
  refine r_iconst (v := nI 0) dX7_readSteps_0 (by decide) ?_
  refine r_istore dX7_readSteps_1 (by decide) ?_
  refine PW.loop (σ := Nat × Nat × List ST × XS) (fun s => 151 - s.1) (fun s => s.1 ≤ s.2.1 ∧ AC SS x s.2.2.2 ∧ TP s.2.2.2 g len s.2.1 ∧ WS3 x s.2.2.2 n s.2.2.1 ∧ (n + s.2.2.1.length) ≤ s.2.1 ∧ xbn (pSteps g len u (151 - s.1) (n + s.2.2.1.length) s.2.1) (fun r => .ok (s.2.2.1 ++ r.1, r.2)) = pSteps g len u 151 n a) (fun s => [(0, .ref 39), (1, .ref 1), (2, .int (nI ns)), (3, .int (nI op)), (4, .int (nI s.1))]) (fun s => s.2.2.2) ((0, a, [], x)) (⟨Nat.zero_le _, AC.rfl, hT, WS3.z hz, hna, (show xbn (pSteps g len u 151 n a) (fun r => .ok (r.1, r.2)) = _ by cases pSteps g len u 151 n a <;> rfl)⟩) rfl rfl (fun s hs sh => ?_)
  obtain ⟨hs0, hA, hTs, hW, hNa, hR⟩ := hs
  have hal := hTs.2.2.2.1
  refine r_iload dX7_readSteps_3 (by rfl) ?_
  refine r_sipush (v := nI 150) dX7_readSteps_5 (by decide) ?_
  refine r_icmp_gtN (tgt := 59) dX7_readSteps_8 (by decide) (by omega) (by omega) (fun h8 => by exfalso; omega) (fun _ => ?_)
  refine r_aload_n dX7_readSteps_11 rfl (by rfl) ?_
  refine r_callV (c_X8_next hTs) mv_X8_next ml_X7_44 ⟨by omega, by decide⟩ dX7_readSteps_12 (by first | assumption | rfl) rfl rfl rfl (Nat.le_of_ble_eq_true rfl) (fun v9 x9 h9 => ?_)
  obtain ⟨rfl, h9⟩ := h9
  refine PW.xeq h9 ?_
  clear h9 x9
  refine r_istore dX7_readSteps_15 (by decide) ?_
  have B0 : TP (atX s.2.2.2 (skip g len s.2.1)) g len (skip g len s.2.1) := hTs.at (skip_le hTs.2.2.2.1)
  have hge := skip_ge g len s.2.1
  refine r_iload dX7_readSteps_17 (by rfl) ?_
  refine r_iconst (v := -1) dX7_readSteps_19 (by decide) ?_
  refine r_icmp_eq (tgt := 30) dX7_readSteps_20 (by decide) (fun h20 => ?_) (fun h20 => ?_)
  · refine r_iconst (v := nI 1) dX7_readSteps_30 (by decide) ?_
    refine r_zret rfl (by first | exact bI_01 _ | exact Or.inl rfl | exact Or.inr rfl) dX7_readSteps_31 ?_
    have w : pSteps g len u 151 n a = .ok (s.2.2.1, skip g len s.2.1) := by
      rw [← hR, show 151 - s.1 = (150 - s.1) + 1 by omega, pSteps, if_pos (by first | exact Or.inl h20 | exact Or.inr h27), xbn_ok, List.append_nil]
    exact ⟨by rw [w]; rfl, hA.at.fin (q := (s.2.2.1, skip g len s.2.1)) B0 w, fun q hq => by
      rw [w] at hq
      injection hq with hq
      subst hq
      exact hW.fr rfl rfl rfl rfl⟩
  · refine r_iload dX7_readSteps_23 (by rfl) ?_
    refine r_bipush (v := nI 93) dX7_readSteps_25 (by decide) ?_
    refine r_icmp_ne (tgt := 32) dX7_readSteps_27 (by decide) (fun h27 => ?_) (fun h27 => ?_)
    · refine r_aload_n dX7_readSteps_32 rfl (by rfl) ?_
      refine r_aload_n dX7_readSteps_33 rfl (by rfl) ?_
      refine r_iload_n dX7_readSteps_34 rfl (by rfl) ?_
      refine r_iload_n dX7_readSteps_35 rfl (by rfl) ?_
      refine r_callV (hu (n + s.2.2.1.length) (skip g len s.2.1) (atX s.2.2.2 (skip g len s.2.1)) B0 hW.1 (by omega)) mv_X7_readStep ml_X7_48 ⟨by omega, by decide⟩ dX7_readSteps_36 (by first | assumption | rfl) rfl rfl rfl (Nat.le_of_ble_eq_true rfl) (fun v9 x3 h3 => ?_)
      obtain ⟨rfl, h3⟩ := h3
      refine r_if_eqB (tgt := 51) dX7_readSteps_39 (by decide) (fun h39 => ?_) (fun h39 => ?_)
      · refine r_iconst (v := nI 0) dX7_readSteps_51 (by decide) ?_
        refine r_zret rfl (by first | exact bI_01 _ | exact Or.inl rfl | exact Or.inr rfl) dX7_readSteps_52 ?_
        first
          | (obtain ⟨er, e4⟩ := okB_f h48
             have w : pSteps g len u 151 n a = .error er := by
               rw [← hR, show 151 - s.1 = (150 - s.1) + 1 by omega, pSteps, if_neg (by intro q; rcases q with q | q; exact h20 q; exact h27 q), e3, xbn_ok, e4, xbn_err, xbn_err]
             exact ⟨by rw [w]; rfl, A3.err q4 e4 w, fun q hq => by rw [w] at hq; cases hq⟩)
          | (obtain ⟨er, e3⟩ := okB_f h39
             have e33 := e3
             rw [hsk] at e33
             have w : pSteps g len u 151 n a = .error er := by
               rw [← hR, show 151 - s.1 = (150 - s.1) + 1 by omega, pSteps, if_neg (by intro q; rcases q with q | q; exact h20 q; exact h27 q), e33, xbn_err, xbn_err]
             exact ⟨by rw [w]; rfl, hA.at.perr h3.1 e3 w, fun q hq => by rw [w] at hq; cases hq⟩)
      · obtain ⟨r3, e3⟩ := okB_t h39
        have T3 := (h3.1.ok e3).1
        have A3 := hA.at.of h3.1 e3
        have W3 : WS3 x x3 n (s.2.2.1 ++ r3.1) := hW.app ((h3.2 r3 e3).fr0 rfl rfl rfl rfl)
        have g3 := hLen _ _ _ e3
        rw [hsk] at e3
        refine r_aload_n dX7_readSteps_42 rfl (by rfl) ?_
        refine r_bipush (v := nI 59) dX7_readSteps_43 (by decide) ?_
        refine r_callV (c_X8_take T3) mv_X8_take ml_X7_51 ⟨by omega, by decide⟩ dX7_readSteps_45 (by first | assumption | rfl) rfl rfl rfl (Nat.le_of_ble_eq_true rfl) (fun v9 x9 h9 => ?_)
        obtain ⟨rfl, h9⟩ := h9
        obtain ⟨v9, f4, e9, q4⟩ := tak_rel (x := x3) (c := 59) T3
        have q4 := q4 (by decide +kernel)
        refine PW.topi (congrArg bI v9) ?_
        refine PW.xeq (h9.trans e9) ?_
        clear h9 x9 v9 e9
        refine r_if_neB (tgt := 53) dX7_readSteps_48 (by decide) (fun h48 => ?_) (fun h48 => ?_)
        · obtain ⟨a4, e4⟩ := okB_t h48
          have T4 : TP (xr x3 1 f4) g len a4 := q4.tp T3 e4
          have A4 : AC SS x (xr x3 1 f4) := A3.pf q4 e4
          have g4 := (pTake_ge e4).1
          refine r_iincN dX7_readSteps_53 (by rfl) (by decide) ?_
          refine r_goto (tgt := 3) dX7_readSteps_56 (by decide) ?_
          exact PW.lc (by rfl) rfl (sh (s.1 + 1, a4, s.2.2.1 ++ r3.1, xr x3 1 f4) ⟨(show s.1 + 1 ≤ a4 by omega), A4, T4, W3.fr rfl rfl rfl rfl, (show n + (s.2.2.1 ++ r3.1).length ≤ a4 by rw [List.length_append]; omega), (by
            show xbn (pSteps g len u (151 - (s.1 + 1)) (n + (s.2.2.1 ++ r3.1).length) a4) _ = _
            rw [← hR, show 151 - s.1 = (151 - (s.1 + 1)) + 1 by omega, pSteps, if_neg (by intro q; rcases q with q | q; exact h20 q; exact h27 q), e3, xbn_ok, e4, xbn_ok, List.length_append, ← Nat.add_assoc]
            cases pSteps g len u (151 - (s.1 + 1)) (n + s.2.2.1.length + r3.1.length) a4 with
            | error e => rfl
            | ok r => exact congrArg Except.ok (Prod.ext (List.append_assoc _ _ _) rfl))⟩ (show 151 - (s.1 + 1) < 151 - s.1 by omega))
        · refine r_iconst (v := nI 0) dX7_readSteps_51 (by decide) ?_
          refine r_zret rfl (by first | exact bI_01 _ | exact Or.inl rfl | exact Or.inr rfl) dX7_readSteps_52 ?_
          first
            | (obtain ⟨er, e4⟩ := okB_f h48
               have w : pSteps g len u 151 n a = .error er := by
                 rw [← hR, show 151 - s.1 = (150 - s.1) + 1 by omega, pSteps, if_neg (by intro q; rcases q with q | q; exact h20 q; exact h27 q), e3, xbn_ok, e4, xbn_err, xbn_err]
               exact ⟨by rw [w]; rfl, A3.err q4 e4 w, fun q hq => by rw [w] at hq; cases hq⟩)
            | (obtain ⟨er, e3⟩ := okB_f h39
               have e33 := e3
               rw [hsk] at e33
               have w : pSteps g len u 151 n a = .error er := by
                 rw [← hR, show 151 - s.1 = (150 - s.1) + 1 by omega, pSteps, if_neg (by intro q; rcases q with q | q; exact h20 q; exact h27 q), e33, xbn_err, xbn_err]
               exact ⟨by rw [w]; rfl, hA.at.perr h3.1 e3 w, fun q hq => by rw [w] at hq; cases hq⟩)
    · refine r_iconst (v := nI 1) dX7_readSteps_30 (by decide) ?_
      refine r_zret rfl (by first | exact bI_01 _ | exact Or.inl rfl | exact Or.inr rfl) dX7_readSteps_31 ?_
      have w : pSteps g len u 151 n a = .ok (s.2.2.1, skip g len s.2.1) := by
        rw [← hR, show 151 - s.1 = (150 - s.1) + 1 by omega, pSteps, if_pos (by first | exact Or.inl h20 | exact Or.inr h27), xbn_ok, List.append_nil]
      exact ⟨by rw [w]; rfl, hA.at.fin (q := (s.2.2.1, skip g len s.2.1)) B0 w, fun q hq => by
        rw [w] at hq
        injection hq with hq
        subst hq
        exact hW.fr rfl rfl rfl rfl⟩
theorem plan_all {g : Nat → Nat} {len ns : Nat} (hl : len ≤ 150) (hns : ns ≤ 5) : ∀ lev op, op + lev = 6 → SPc g len ns mX7_readSteps (8 + 3 * lev) op (pStepsL g len ns lev)
  | 0, op, ho => fun n a x hT hz hna => c_X7_readSteps (d := 7) hl (by decide) (fun n a x hT hz hna => c_X7_readStep (d := 5) (s := none) hl hns (by omega) (Or.inl ⟨rfl, by omega⟩) (by decide) hT hz hna) (LenS.all 0) (pStepL_skip g len ns 0) hT hz hna
  | lev + 1, op, ho => by
    have ih := plan_all (g := g) hl hns lev (op + 1) (by omega)
    have hU : SPc g len ns mX7_readStep (8 + 3 * lev + 2) op (pStepL g len ns (lev + 1)) := fun n a x hT hz hna => c_X7_readStep (s := some (pStepsL g len ns lev)) hl hns (by omega) (Or.inr ⟨_, rfl, by omega, ih, (LenS.all lev).steps 151⟩) (by omega) hT hz hna
    have z : SPc g len ns mX7_readSteps (8 + 3 * lev + 2 + 1) op (pStepsL g len ns (lev + 1)) := fun n a x hT hz hna => c_X7_readSteps hl (by omega) hU (LenS.all (lev + 1)) (pStepL_skip g len ns (lev + 1)) hT hz hna
    rw [show 8 + 3 * (lev + 1) = 8 + 3 * lev + 2 + 1 by omega]
    exact z
set_option maxHeartbeats 8000000 in
set_option maxRecDepth 20000 in
theorem c_X7_read {g : Nat → Nat} {len ns a : Nat} {x : XS} (hl : len ≤ 150) (hns : ns ≤ 5) (hT : TP x g len a) : MM mX7_read 27 0 0 [.ref 39, .ref 1, .int (nI ns)] x (fun v x1 => v = some (.int (bI (okB (pWork g len ns a)))) ∧ PO SS x x1 g len (pWork g len ns a) (fun q => q.2) ∧ ∀ q, pWork g len ns a = .ok q → WS3 (xu (xu (xu (xu x 39 3 (nI 0)) 39 4 (nI 0)) 39 5 (nI 0)) 39 6 (nI 0)) x1 0 q.1) NoT := by
  refine MM.of (by decide) (Nat.le_of_ble_eq_true rfl) ?_
  have y1 := lay_1
  have y2 := lay_2
  have y39 := lay_39
  have y40 := lay_40
  have y41 := lay_41
  have y42 := lay_42
  have T0 : TP (xu (xu (xu (xu x 39 3 (nI 0)) 39 4 (nI 0)) 39 5 (nI 0)) 39 6 (nI 0)) g len a := hT
  have A0 : AC SS x (xu (xu (xu (xu x 39 3 (nI 0)) 39 4 (nI 0)) 39 5 (nI 0)) 39 6 (nI 0)) := (((AC.rfl.puts (SS_ (by decide) (by decide)) (by decide)).puts (SS_ (by decide) (by decide)) (by decide)).puts (SS_ (by decide) (by decide)) (by decide)).puts (SS_ (by decide) (by decide)) (by decide)
  refine r_aload_n dX7_read_0 rfl (by rfl) ?_
  refine r_iconst (v := nI 0) dX7_read_1 (by decide) ?_
  refine pf_X7_21 rfl dX7_read_2 (by first | assumption | rfl) (by rfl) ?_
  refine r_aload_n dX7_read_5 rfl (by rfl) ?_
  refine r_iconst (v := nI 0) dX7_read_6 (by decide) ?_
  refine pf_X7_25 rfl dX7_read_7 (by first | assumption | rfl) (by rfl) ?_
  refine r_aload_n dX7_read_10 rfl (by rfl) ?_
  refine r_iconst (v := nI 0) dX7_read_11 (by decide) ?_
  refine pf_X7_28 rfl dX7_read_12 (by first | assumption | rfl) (by rfl) ?_
  refine r_aload_n dX7_read_15 rfl (by rfl) ?_
  refine r_iconst (v := nI 0) dX7_read_16 (by decide) ?_
  refine pf_X7_31 rfl dX7_read_17 (by first | assumption | rfl) (by rfl) ?_
  refine r_aload_n dX7_read_20 rfl (by rfl) ?_
  refine r_aload_n dX7_read_21 rfl (by rfl) ?_
  refine r_iload_n dX7_read_22 rfl (by rfl) ?_
  refine r_iconst (v := nI 0) dX7_read_23 (by decide) ?_
  refine r_callV (plan_all hl hns 6 0 rfl 0 a (xu (xu (xu (xu x 39 3 (nI 0)) 39 4 (nI 0)) 39 5 (nI 0)) 39 6 (nI 0)) T0 rfl (Nat.zero_le _)) mv_X7_readSteps ml_X7_34 ⟨by decide, by decide⟩ dX7_read_24 (by first | assumption | rfl) rfl rfl rfl (Nat.le_of_ble_eq_true rfl) (fun v9 x3 h3 => ?_)
  obtain ⟨rfl, h3⟩ := h3
  refine r_if_eqB (tgt := 41) dX7_read_27 (by decide) (fun h27 => ?_) (fun h27 => ?_)
  · refine r_iconst (v := nI 0) dX7_read_41 (by decide) ?_
    refine r_zret rfl (by first | exact bI_01 _ | exact Or.inl rfl | exact Or.inr rfl) dX7_read_42 ?_
    first
      | (obtain ⟨er, e3⟩ := okB_f h27
         have w : pWork g len ns a = .error er := by unfold pWork; rw [e3, xbn_err]
         exact ⟨by rw [w]; rfl, A0.perr h3.1 e3 w, fun q hq => by rw [w] at hq; cases hq⟩)
      | (obtain ⟨er, e4⟩ := okB_f h34
         have w : pWork g len ns a = .error er := by unfold pWork; rw [e3, xbn_ok, e4, xbn_err]
         exact ⟨by rw [w]; rfl, A3.err q4 e4 w, fun q hq => by rw [w] at hq; cases hq⟩)
      | (obtain ⟨a2, e4⟩ := okB_t h34
         have w : pWork g len ns a = .ok (r3.1, a2) := by unfold pWork; rw [e3, xbn_ok, e4, xbn_ok]
         exact ⟨by rw [w]; rfl, (A3.pf q4 e4).fin (q := (r3.1, a2)) (q4.tp T3 e4) w, fun q hq => by
           rw [w] at hq
           injection hq with hq
           subst hq
           exact W3.fr rfl rfl rfl rfl⟩)
  · obtain ⟨r3, e3⟩ := okB_t h27
    have T3 := (h3.1.ok e3).1
    have A3 := A0.of h3.1 e3
    have W3 := h3.2 r3 e3
    refine r_aload_n dX7_read_30 rfl (by rfl) ?_
    refine r_callV (c_X8_nothingMore T3) mv_X8_nothingMore ml_X7_38 ⟨by decide, by decide⟩ dX7_read_31 (by first | assumption | rfl) rfl rfl rfl (Nat.le_of_ble_eq_true rfl) (fun v9 x9 h9 => ?_)
    obtain ⟨rfl, h9⟩ := h9
    obtain ⟨v9, f4, e9, q4⟩ := nm_rel (x := x3) T3
    refine PW.topi (congrArg bI v9) ?_
    refine PW.xeq (h9.trans e9) ?_
    clear h9 x9 v9 e9
    refine r_if_eqB (tgt := 41) dX7_read_34 (by decide) (fun h34 => ?_) (fun h34 => ?_)
    · refine r_iconst (v := nI 0) dX7_read_41 (by decide) ?_
      refine r_zret rfl (by first | exact bI_01 _ | exact Or.inl rfl | exact Or.inr rfl) dX7_read_42 ?_
      first
        | (obtain ⟨er, e3⟩ := okB_f h27
           have w : pWork g len ns a = .error er := by unfold pWork; rw [e3, xbn_err]
           exact ⟨by rw [w]; rfl, A0.perr h3.1 e3 w, fun q hq => by rw [w] at hq; cases hq⟩)
        | (obtain ⟨er, e4⟩ := okB_f h34
           have w : pWork g len ns a = .error er := by unfold pWork; rw [e3, xbn_ok, e4, xbn_err]
           exact ⟨by rw [w]; rfl, A3.err q4 e4 w, fun q hq => by rw [w] at hq; cases hq⟩)
        | (obtain ⟨a2, e4⟩ := okB_t h34
           have w : pWork g len ns a = .ok (r3.1, a2) := by unfold pWork; rw [e3, xbn_ok, e4, xbn_ok]
           exact ⟨by rw [w]; rfl, (A3.pf q4 e4).fin (q := (r3.1, a2)) (q4.tp T3 e4) w, fun q hq => by
             rw [w] at hq
             injection hq with hq
             subst hq
             exact W3.fr rfl rfl rfl rfl⟩)
    · refine r_iconst (v := nI 1) dX7_read_37 (by decide) ?_
      refine r_goto (tgt := 42) dX7_read_38 (by decide) ?_
      refine r_zret rfl (by first | exact bI_01 _ | exact Or.inl rfl | exact Or.inr rfl) dX7_read_42 ?_
      first
        | (obtain ⟨er, e3⟩ := okB_f h27
           have w : pWork g len ns a = .error er := by unfold pWork; rw [e3, xbn_err]
           exact ⟨by rw [w]; rfl, A0.perr h3.1 e3 w, fun q hq => by rw [w] at hq; cases hq⟩)
        | (obtain ⟨er, e4⟩ := okB_f h34
           have w : pWork g len ns a = .error er := by unfold pWork; rw [e3, xbn_ok, e4, xbn_err]
           exact ⟨by rw [w]; rfl, A3.err q4 e4 w, fun q hq => by rw [w] at hq; cases hq⟩)
        | (obtain ⟨a2, e4⟩ := okB_t h34
           have w : pWork g len ns a = .ok (r3.1, a2) := by unfold pWork; rw [e3, xbn_ok, e4, xbn_ok]
           exact ⟨by rw [w]; rfl, (A3.pf q4 e4).fin (q := (r3.1, a2)) (q4.tp T3 e4) w, fun q hq => by
             rw [w] at hq
             injection hq with hq
             subst hq
             exact W3.fr rfl rfl rfl rfl⟩)
