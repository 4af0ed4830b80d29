/-! THE HOUSE'S TEXT: the whole -/
theorem zfill_lt {f : Nat → Int32} {m : Nat} : ∀ n, m < n → zfill f n m = nI 0
  | 0, h => absurd h (Nat.not_lt_zero m)
  | n + 1, h => by
    show upd (zfill f n) n (nI 0) m = nI 0
    by_cases q : m = n
    · rw [q, pk_us]
    · rw [pk_un q]; exact zfill_lt n (by omega)
theorem skp_stop (g : Nat → Nat) (len : Nat) : ∀ n a, len - a ≤ n → ¬ (skp g len n a < len ∧ g (skp g len n a) = 32)
  | 0, a, h => by
    intro q
    have q1 : a < len := q.1
    omega
  | n + 1, a, h => by
    unfold skp
    split
    · exact skp_stop g len n (a + 1) (by omega)
    · assumption
theorem skip_stop (g : Nat → Nat) (len a : Nat) : ¬ (skip g len a < len ∧ g (skip g len a) = 32) := skp_stop g len _ a (Nat.le_refl _)
theorem skip_skip (g : Nat → Nat) (len a : Nat) : skip g len (skip g len a) = skip g len a := skip_e (skip_stop g len a)
theorem wrd_skip (g : Nat → Nat) (len i a : Nat) : wrd g len i (skip g len a) = wrd g len i a := by unfold wrd; rw [skip_skip]
theorem pWord_skip (g : Nat → Nat) (len i a : Nat) : pWord g len i (skip g len a) = pWord g len i a := by unfold pWord; rw [wrd_skip, skip_skip]
theorem pNum_skip (g : Nat → Nat) (len lo n a : Nat) : pNum g len lo n (skip g len a) = pNum g len lo n a := by unfold pNum nxV; rw [skip_skip]
theorem pTake_skip (g : Nat → Nat) (len c a : Nat) : pTake g len c (skip g len a) = pTake g len c a := by unfold pTake nxV; rw [skip_skip]
theorem AC.at {S : Nat → Prop} {x X : XS} {a : Nat} (h : AC S x X) : AC S x (atX X a) := ⟨h.1, h.2.1, h.2.2.1, fun c hc hs => (show atX X a c = X c from xu_n hc).trans (h.2.2.2 c hc hs)⟩
theorem DI.at {x : XS} {h : HS} {a : Nat} (hd : DI x h) : DI (atX x a) h := hd.fr (fun c h1 _ => xu_n (show c ≠ 1 by omega))
theorem of_rel {x x1 : XS} {g : Nat → Nat} {len a k n : Nat} {h : HS} {f : Nat → Int32} (hk : k < 8) (hd : DI x h) (hT : TP x g len a) (q : PF x f len (pTwo g len (HS.n h) n a) (fun q => q.2.2)) (e : x1 = (match pTwo g len (HS.n h) n a with | .ok q => xu (xr x 1 f) (14 + k) q.1 (nI q.2.1) | .error _ => xr x 1 f)) : okB (pTwo g len (HS.n h) n a) = okB (pOf g len k n h a) ∧ PO SH x x1 g len (pOf g len k n h a) (fun q => q.2) ∧ ∀ q, pOf g len k n h a = .ok q → DI x1 q.1 := by
  subst e
  unfold pOf
  cases hr : pTwo g len (HS.n h) n a with
  | error er => exact ⟨rfl, AC.rfl.err q hr rfl, fun _ hq => by cases hq⟩
  | ok r =>
    refine ⟨rfl, ((AC.rfl.pf q hr).puts (SH_ (by omega) (by omega)) (by omega)).fin (q := (HS.put h k r.1 r.2.1, r.2.2)) ?_ rfl, fun q2 hq => ?_⟩
    · exact (q.tp hT hr).put (show 14 + k ≠ 1 by omega) (show 14 + k ≠ 2 by omega)
    · injection hq with hq
      subst hq
      exact hd.one.put hk
set_option maxHeartbeats 8000000 in
set_option maxRecDepth 20000 in
theorem c_X3_readClause {g : Nat → Nat} {len a b w : Nat} {h : HS} {x : XS} (hT : TP x g len a) (hd : DI x h) (hb : x 1 6 = nI b) (hw : w < 8) : MM mX3_readClause 4 0 0 [.ref 13, .ref 1, .int (nI w)] x (fun v x1 => v = some (.int (bI (okB (pClause g len w h b a)))) ∧ PO SH x x1 g len (pClause g len w h b a) (fun q => q.2) ∧ ∀ q, pClause g len w h b a = .ok q → DI x1 q.1) NoT := by
  refine MM.of (by decide) (Nat.le_of_ble_eq_true rfl) ?_
  have y1 := lay_1
  have y2 := lay_2
  have y13 := lay_13
  have y14 := lay_14
  have y15 := lay_15
  have y16 := lay_16
  have y17 := lay_17
  have y18 := lay_18
  have y19 := lay_19
  have y20 := lay_20
  have y21 := lay_21
  have y22 := lay_22
  have hw8 : w = 0 ∨ w = 1 ∨ w = 2 ∨ w = 3 ∨ w = 4 ∨ w = 5 ∨ w = 6 ∨ w = 7 := by omega
  refine r_iload_n dX3_readClause_0 rfl (by rfl) ?_
  rcases hw8 with rfl | rfl | rfl | rfl | rfl | rfl | rfl | rfl
  · refine r_tableIn (tgt := 44) (off := 43) dX3_readClause_1 (by decide +kernel) (by decide +kernel) (by decide +kernel) (by decide) ?_
    refine r_aload_n dX3_readClause_44 rfl (by rfl) ?_
    refine r_aload_n dX3_readClause_45 rfl (by rfl) ?_
    refine r_callV (c_X3_readSleeper hT hd hb) mv_X3_readSleeper ml_X3_82 ⟨by decide, by decide⟩ dX3_readClause_46 (by first | assumption | rfl) rfl rfl rfl (Nat.le_of_ble_eq_true rfl) (fun v9 x9 h9 => ?_)
    obtain ⟨rfl, h9⟩ := h9
    refine r_zret rfl (by first | exact bI_01 _ | exact Or.inl rfl | exact Or.inr rfl) dX3_readClause_49 ?_
    exact ⟨rfl, h9⟩
  · refine r_tableIn (tgt := 50) (off := 49) dX3_readClause_1 (by decide +kernel) (by decide +kernel) (by decide +kernel) (by decide) ?_
    refine r_aload_n dX3_readClause_50 rfl (by rfl) ?_
    refine r_aload_n dX3_readClause_51 rfl (by rfl) ?_
    refine r_aload_n dX3_readClause_52 rfl (by rfl) ?_
    refine gf_X3_28 rfl dX3_readClause_53 (by first | assumption | rfl) (by rfl) ?_
    refine r_bipush (v := nI 9) dX3_readClause_56 (by decide) ?_
    refine r_callV (c_X3_readOf (n := 10) hT y18 hd.1 hd.2.2.2.2.1 (by decide) (by decide +kernel)) mv_X3_readOf ml_X3_86 ⟨by decide, by decide⟩ dX3_readClause_58 (by first | assumption | rfl) rfl rfl rfl (Nat.le_of_ble_eq_true rfl) (fun v9 x9 h9 => ?_)
    obtain ⟨rfl, h9⟩ := h9
    refine r_zret rfl (by first | exact bI_01 _ | exact Or.inl rfl | exact Or.inr rfl) dX3_readClause_61 ?_
    obtain ⟨f9, q9, h9⟩ := h9
    have w9 := of_rel (k := 4) (by decide) hd hT q9 h9
    exact ⟨by rw [w9.1]; rfl, w9.2.1, w9.2.2⟩
  · refine r_tableIn (tgt := 62) (off := 61) dX3_readClause_1 (by decide +kernel) (by decide +kernel) (by decide +kernel) (by decide) ?_
    refine r_aload_n dX3_readClause_62 rfl (by rfl) ?_
    refine r_aload_n dX3_readClause_63 rfl (by rfl) ?_
    refine r_aload_n dX3_readClause_64 rfl (by rfl) ?_
    refine gf_X3_31 rfl dX3_readClause_65 (by first | assumption | rfl) (by rfl) ?_
    refine r_bipush (v := nI 9) dX3_readClause_68 (by decide) ?_
    refine r_callV (c_X3_readOf (n := 10) hT y19 hd.1 hd.2.2.2.2.1 (by decide) (by decide +kernel)) mv_X3_readOf ml_X3_86 ⟨by decide, by decide⟩ dX3_readClause_70 (by first | assumption | rfl) rfl rfl rfl (Nat.le_of_ble_eq_true rfl) (fun v9 x9 h9 => ?_)
    obtain ⟨rfl, h9⟩ := h9
    refine r_zret rfl (by first | exact bI_01 _ | exact Or.inl rfl | exact Or.inr rfl) dX3_readClause_73 ?_
    obtain ⟨f9, q9, h9⟩ := h9
    have w9 := of_rel (k := 5) (by decide) hd hT q9 h9
    exact ⟨by rw [w9.1]; rfl, w9.2.1, w9.2.2⟩
  · refine r_tableIn (tgt := 74) (off := 73) dX3_readClause_1 (by decide +kernel) (by decide +kernel) (by decide +kernel) (by decide) ?_
    refine r_aload_n dX3_readClause_74 rfl (by rfl) ?_
    refine r_aload_n dX3_readClause_75 rfl (by rfl) ?_
    refine r_aload_n dX3_readClause_76 rfl (by rfl) ?_
    refine gf_X3_34 rfl dX3_readClause_77 (by first | assumption | rfl) (by rfl) ?_
    refine r_bipush (v := nI 20) dX3_readClause_80 (by decide) ?_
    refine r_callV (c_X3_readOf (n := 21) hT y20 hd.1 hd.2.2.2.2.1 (by decide) (by decide +kernel)) mv_X3_readOf ml_X3_86 ⟨by decide, by decide⟩ dX3_readClause_82 (by first | assumption | rfl) rfl rfl rfl (Nat.le_of_ble_eq_true rfl) (fun v9 x9 h9 => ?_)
    obtain ⟨rfl, h9⟩ := h9
    refine r_zret rfl (by first | exact bI_01 _ | exact Or.inl rfl | exact Or.inr rfl) dX3_readClause_85 ?_
    obtain ⟨f9, q9, h9⟩ := h9
    have w9 := of_rel (k := 6) (by decide) hd hT q9 h9
    exact ⟨by rw [w9.1]; rfl, w9.2.1, w9.2.2⟩
  · refine r_tableIn (tgt := 86) (off := 85) dX3_readClause_1 (by decide +kernel) (by decide +kernel) (by decide +kernel) (by decide) ?_
    refine r_aload_n dX3_readClause_86 rfl (by rfl) ?_
    refine r_aload_n dX3_readClause_87 rfl (by rfl) ?_
    refine r_aload_n dX3_readClause_88 rfl (by rfl) ?_
    refine gf_X3_37 rfl dX3_readClause_89 (by first | assumption | rfl) (by rfl) ?_
    refine r_sipush (v := nI 240) dX3_readClause_92 (by decide) ?_
    refine r_callV (c_X3_readOf (n := 241) hT y21 hd.1 hd.2.2.2.2.1 (by decide) (by decide +kernel)) mv_X3_readOf ml_X3_86 ⟨by decide, by decide⟩ dX3_readClause_95 (by first | assumption | rfl) rfl rfl rfl (Nat.le_of_ble_eq_true rfl) (fun v9 x9 h9 => ?_)
    obtain ⟨rfl, h9⟩ := h9
    refine r_zret rfl (by first | exact bI_01 _ | exact Or.inl rfl | exact Or.inr rfl) dX3_readClause_98 ?_
    obtain ⟨f9, q9, h9⟩ := h9
    have w9 := of_rel (k := 7) (by decide) hd hT q9 h9
    exact ⟨by rw [w9.1]; rfl, w9.2.1, w9.2.2⟩
  · refine r_tableIn (tgt := 99) (off := 98) dX3_readClause_1 (by decide +kernel) (by decide +kernel) (by decide +kernel) (by decide) ?_
    refine r_aload_n dX3_readClause_99 rfl (by rfl) ?_
    refine r_aload_n dX3_readClause_100 rfl (by rfl) ?_
    refine r_iconst (v := nI 0) dX3_readClause_101 (by decide) ?_
    refine r_bipush (v := nI 40) dX3_readClause_102 (by decide) ?_
    refine r_callV (c_X8_number hT (by decide)) mv_X8_number ml_X3_90 ⟨by decide, by decide⟩ dX3_readClause_104 (by first | assumption | rfl) rfl rfl rfl (Nat.le_of_ble_eq_true rfl) (fun v9 x9 h9 => ?_)
    obtain ⟨rfl, h9⟩ := h9
    obtain ⟨v9, f1, e9, q1, b1⟩ := num_rel (x := x) (lo := 0) (n := 41) (hv := nI 40) hT (by decide) (by decide) (by decide +kernel)
    refine PW.topi v9 ?_
    refine PW.xeq (h9.trans e9) ?_
    clear h9 x9 v9 e9
    refine pf_X3_46 rfl dX3_readClause_107 (by first | assumption | rfl) (by rfl) ?_
    refine r_aload_n dX3_readClause_110 rfl (by rfl) ?_
    refine gf_X3_46 rfl dX3_readClause_111 (by first | assumption | rfl) (by rfl) ?_
    refine PW.topi (show _ = pI (pNum g len 0 41 a) from xu_s) ?_
    refine r_iconst (v := -1) dX3_readClause_114 (by decide) ?_
    refine r_icmp_eq (tgt := 122) dX3_readClause_115 (by decide) (fun h115 => ?_) (fun h115 => ?_)
    · refine r_iconst (v := nI 0) dX3_readClause_122 (by decide) ?_
      refine r_zret rfl (by first | exact bI_01 _ | exact Or.inl rfl | exact Or.inr rfl) dX3_readClause_123 ?_
      first
        | (obtain ⟨er, he⟩ := pI_eq (by decide) h115
           have w : pClause g len 5 h b a = .error er := by
             show (match pNum g len 0 41 a with | .error e => _ | .ok q => _) = _
             simp only [he]
           rw [w]
           refine ⟨rfl, ?_, fun q hq => by cases hq⟩
           have z := (AC.rfl.err (g := g) (S := SH) q1 he rfl : PO SH x _ g len (.error er : Except PE (HS × Nat)) (fun q => q.2))
           exact z.put (c := 13) (SH_ (by decide) (by decide)) (by decide) (by decide))
        | (obtain ⟨v, a2, he, hv⟩ := pI_ne h115
           rw [show pI (pNum g len 0 41 a) = nI v by rw [he]; rfl]
           have w : pClause g len 5 h b a = .ok ((HS.n h, HS.ck h, v, HS.over h, HS.row h, HS.st h), a2) := by
             show (match pNum g len 0 41 a with | .error e => _ | .ok q => _) = _
             simp only [he]
           rw [w]
           refine ⟨rfl, ((AC.rfl.pf q1 he).puts (SH_ (by decide) (by decide)) (by decide)).fin (q := ((HS.n h, HS.ck h, v, HS.over h, HS.row h, HS.st h), a2)) (show TP _ g len a2 from q1.tp hT he) rfl, fun q hq => ?_⟩
           injection hq with hq
           subst hq
           exact ⟨hd.1, hd.2.1, rfl, hd.2.2.2.1, hd.2.2.2.2.1, hd.2.2.2.2.2.1, fun k hk p hp => (by rw [xu_n (show 14 + k ≠ 13 by omega), xr_n (show 14 + k ≠ 1 by omega)]; exact hd.2.2.2.2.2.2.1 k hk p hp), hd.2.2.2.2.2.2.2⟩)
    · refine r_iconst (v := nI 1) dX3_readClause_118 (by decide) ?_
      refine r_goto (tgt := 123) dX3_readClause_119 (by decide) ?_
      refine r_zret rfl (by first | exact bI_01 _ | exact Or.inl rfl | exact Or.inr rfl) dX3_readClause_123 ?_
      first
        | (obtain ⟨er, he⟩ := pI_eq (by decide) h115
           have w : pClause g len 5 h b a = .error er := by
             show (match pNum g len 0 41 a with | .error e => _ | .ok q => _) = _
             simp only [he]
           rw [w]
           refine ⟨rfl, ?_, fun q hq => by cases hq⟩
           have z := (AC.rfl.err (g := g) (S := SH) q1 he rfl : PO SH x _ g len (.error er : Except PE (HS × Nat)) (fun q => q.2))
           exact z.put (c := 13) (SH_ (by decide) (by decide)) (by decide) (by decide))
        | (obtain ⟨v, a2, he, hv⟩ := pI_ne h115
           rw [show pI (pNum g len 0 41 a) = nI v by rw [he]; rfl]
           have w : pClause g len 5 h b a = .ok ((HS.n h, HS.ck h, v, HS.over h, HS.row h, HS.st h), a2) := by
             show (match pNum g len 0 41 a with | .error e => _ | .ok q => _) = _
             simp only [he]
           rw [w]
           refine ⟨rfl, ((AC.rfl.pf q1 he).puts (SH_ (by decide) (by decide)) (by decide)).fin (q := ((HS.n h, HS.ck h, v, HS.over h, HS.row h, HS.st h), a2)) (show TP _ g len a2 from q1.tp hT he) rfl, fun q hq => ?_⟩
           injection hq with hq
           subst hq
           exact ⟨hd.1, hd.2.1, rfl, hd.2.2.2.1, hd.2.2.2.2.1, hd.2.2.2.2.2.1, fun k hk p hp => (by rw [xu_n (show 14 + k ≠ 13 by omega), xr_n (show 14 + k ≠ 1 by omega)]; exact hd.2.2.2.2.2.2.1 k hk p hp), hd.2.2.2.2.2.2.2⟩)
  · refine r_tableIn (tgt := 124) (off := 123) dX3_readClause_1 (by decide +kernel) (by decide +kernel) (by decide +kernel) (by decide) ?_
    refine r_aload_n dX3_readClause_124 rfl (by rfl) ?_
    refine r_aload_n dX3_readClause_125 rfl (by rfl) ?_
    refine r_iconst (v := nI 1) dX3_readClause_126 (by decide) ?_
    refine r_bipush (v := nI 60) dX3_readClause_127 (by decide) ?_
    refine r_callV (c_X8_number hT (by decide)) mv_X8_number ml_X3_90 ⟨by decide, by decide⟩ dX3_readClause_129 (by first | assumption | rfl) rfl rfl rfl (Nat.le_of_ble_eq_true rfl) (fun v9 x9 h9 => ?_)
    obtain ⟨rfl, h9⟩ := h9
    obtain ⟨v9, f1, e9, q1, b1⟩ := num_rel (x := x) (lo := 1) (n := 61) (hv := nI 60) hT (by decide) (by decide) (by decide +kernel)
    refine PW.topi v9 ?_
    refine PW.xeq (h9.trans e9) ?_
    clear h9 x9 v9 e9
    refine pf_X3_49 rfl dX3_readClause_132 (by first | assumption | rfl) (by rfl) ?_
    refine r_aload_n dX3_readClause_135 rfl (by rfl) ?_
    refine gf_X3_49 rfl dX3_readClause_136 (by first | assumption | rfl) (by rfl) ?_
    refine PW.topi (show _ = pI (pNum g len 1 61 a) from xu_s) ?_
    refine r_iconst (v := -1) dX3_readClause_139 (by decide) ?_
    refine r_icmp_eq (tgt := 147) dX3_readClause_140 (by decide) (fun h140 => ?_) (fun h140 => ?_)
    · refine r_iconst (v := nI 0) dX3_readClause_147 (by decide) ?_
      refine r_zret rfl (by first | exact bI_01 _ | exact Or.inl rfl | exact Or.inr rfl) dX3_readClause_148 ?_
      first
        | (obtain ⟨er, he⟩ := pI_eq (by decide) h140
           have w : pClause g len 6 h b a = .error er := by
             show (match pNum g len 1 61 a with | .error e => _ | .ok q => _) = _
             simp only [he]
           rw [w]
           refine ⟨rfl, ?_, fun q hq => by cases hq⟩
           have z := (AC.rfl.err (g := g) (S := SH) q1 he rfl : PO SH x _ g len (.error er : Except PE (HS × Nat)) (fun q => q.2))
           exact z.put (c := 13) (SH_ (by decide) (by decide)) (by decide) (by decide))
        | (obtain ⟨v, a2, he, hv⟩ := pI_ne h140
           rw [show pI (pNum g len 1 61 a) = nI v by rw [he]; rfl]
           have w : pClause g len 6 h b a = .ok ((HS.n h, HS.ck h, HS.wall h, v, HS.row h, HS.st h), a2) := by
             show (match pNum g len 1 61 a with | .error e => _ | .ok q => _) = _
             simp only [he]
           rw [w]
           refine ⟨rfl, ((AC.rfl.pf q1 he).puts (SH_ (by decide) (by decide)) (by decide)).fin (q := ((HS.n h, HS.ck h, HS.wall h, v, HS.row h, HS.st h), a2)) (show TP _ g len a2 from q1.tp hT he) rfl, fun q hq => ?_⟩
           injection hq with hq
           subst hq
           exact ⟨hd.1, hd.2.1, hd.2.2.1, rfl, hd.2.2.2.2.1, hd.2.2.2.2.2.1, fun k hk p hp => (by rw [xu_n (show 14 + k ≠ 13 by omega), xr_n (show 14 + k ≠ 1 by omega)]; exact hd.2.2.2.2.2.2.1 k hk p hp), hd.2.2.2.2.2.2.2⟩)
    · refine r_iconst (v := nI 1) dX3_readClause_143 (by decide) ?_
      refine r_goto (tgt := 148) dX3_readClause_144 (by decide) ?_
      refine r_zret rfl (by first | exact bI_01 _ | exact Or.inl rfl | exact Or.inr rfl) dX3_readClause_148 ?_
      first
        | (obtain ⟨er, he⟩ := pI_eq (by decide) h140
           have w : pClause g len 6 h b a = .error er := by
             show (match pNum g len 1 61 a with | .error e => _ | .ok q => _) = _
             simp only [he]
           rw [w]
           refine ⟨rfl, ?_, fun q hq => by cases hq⟩
           have z := (AC.rfl.err (g := g) (S := SH) q1 he rfl : PO SH x _ g len (.error er : Except PE (HS × Nat)) (fun q => q.2))
           exact z.put (c := 13) (SH_ (by decide) (by decide)) (by decide) (by decide))
        | (obtain ⟨v, a2, he, hv⟩ := pI_ne h140
           rw [show pI (pNum g len 1 61 a) = nI v by rw [he]; rfl]
           have w : pClause g len 6 h b a = .ok ((HS.n h, HS.ck h, HS.wall h, v, HS.row h, HS.st h), a2) := by
             show (match pNum g len 1 61 a with | .error e => _ | .ok q => _) = _
             simp only [he]
           rw [w]
           refine ⟨rfl, ((AC.rfl.pf q1 he).puts (SH_ (by decide) (by decide)) (by decide)).fin (q := ((HS.n h, HS.ck h, HS.wall h, v, HS.row h, HS.st h), a2)) (show TP _ g len a2 from q1.tp hT he) rfl, fun q hq => ?_⟩
           injection hq with hq
           subst hq
           exact ⟨hd.1, hd.2.1, hd.2.2.1, rfl, hd.2.2.2.2.1, hd.2.2.2.2.2.1, fun k hk p hp => (by rw [xu_n (show 14 + k ≠ 13 by omega), xr_n (show 14 + k ≠ 1 by omega)]; exact hd.2.2.2.2.2.2.1 k hk p hp), hd.2.2.2.2.2.2.2⟩)
  · refine r_tableOut (tgt := 149) dX3_readClause_1 (by decide +kernel) (by decide) ?_
    refine r_aload_n dX3_readClause_149 rfl (by rfl) ?_
    refine r_aload_n dX3_readClause_150 rfl (by rfl) ?_
    refine r_callV (c_X3_readClock hT hd hb) mv_X3_readClock ml_X3_94 ⟨by decide, by decide⟩ dX3_readClause_151 (by first | assumption | rfl) rfl rfl rfl (Nat.le_of_ble_eq_true rfl) (fun v9 x9 h9 => ?_)
    obtain ⟨rfl, h9⟩ := h9
    refine r_zret rfl (by first | exact bI_01 _ | exact Or.inl rfl | exact Or.inr rfl) dX3_readClause_154 ?_
    exact ⟨rfl, h9⟩
theorem wsc_run (g : Nat → Nat) (i b e n w f : Nat) : ∀ k j, (∀ t, t < k → ¬ (j + t = strN.getD i 0 ∨ chN i (j + t) = 32)) → wsc g i b e (n + k) j w f = wsc g i b e n (j + k) w f
  | 0, _, _ => rfl
  | k + 1, j, h => by
    have h00 := h 0 (Nat.succ_pos k)
    rw [Nat.add_zero] at h00
    show (if _ then _ else wsc g i b e (n + k) (j + 1) w f) = _
    rw [if_neg h00, wsc_run g i b e n w f k (j + 1) (fun t ht => by rw [show j + 1 + t = j + (t + 1) by omega]; exact h (t + 1) (by omega))]
    rw [show j + 1 + k = j + (k + 1) by omega]
theorem wsc_jump {g : Nat → Nat} {i b e : Nat} (n j k w f : Nat) (h : ∀ t, t < k → ¬ (j + t = strN.getD i 0 ∨ chN i (j + t) = 32)) (h2 : j + k = strN.getD i 0 ∨ chN i (j + k) = 32) : wsc g i b e (n + 1 + k) j w f = if isW g i b e f (j + k) then some w else wsc g i b e n (j + k + 1) (w + 1) (j + k + 1) := by
  rw [wsc_run g i b e (n + 1) w f k j h]
  show (if _ then _ else _) = _
  rw [if_pos h2]
set_option maxRecDepth 20000 in
theorem wkey0 (g : Nat → Nat) (b e : Nat) : wsc g 0 b e (strN.getD 0 0 + 1) 0 0 0 = (if isW g 0 b e 0 7 then some 0 else (if isW g 0 b e 8 12 then some 1 else (if isW g 0 b e 13 17 then some 2 else (if isW g 0 b e 18 22 then some 3 else (if isW g 0 b e 23 27 then some 4 else (if isW g 0 b e 28 32 then some 5 else (if isW g 0 b e 33 37 then some 6 else (if isW g 0 b e 38 43 then some 7 else none)))))))) := by
  rw [show wsc g 0 b e (strN.getD 0 0 + 1) 0 0 0 = _ from wsc_jump (g := g) (i := 0) (b := b) (e := e) 36 0 7 0 0 (by decide +kernel) (by decide +kernel)]
  rw [show wsc g 0 b e 36 8 1 8 = _ from wsc_jump (g := g) (i := 0) (b := b) (e := e) 31 8 4 1 8 (by decide +kernel) (by decide +kernel)]
  rw [show wsc g 0 b e 31 13 2 13 = _ from wsc_jump (g := g) (i := 0) (b := b) (e := e) 26 13 4 2 13 (by decide +kernel) (by decide +kernel)]
  rw [show wsc g 0 b e 26 18 3 18 = _ from wsc_jump (g := g) (i := 0) (b := b) (e := e) 21 18 4 3 18 (by decide +kernel) (by decide +kernel)]
  rw [show wsc g 0 b e 21 23 4 23 = _ from wsc_jump (g := g) (i := 0) (b := b) (e := e) 16 23 4 4 23 (by decide +kernel) (by decide +kernel)]
  rw [show wsc g 0 b e 16 28 5 28 = _ from wsc_jump (g := g) (i := 0) (b := b) (e := e) 11 28 4 5 28 (by decide +kernel) (by decide +kernel)]
  rw [show wsc g 0 b e 11 33 6 33 = _ from wsc_jump (g := g) (i := 0) (b := b) (e := e) 6 33 4 6 33 (by decide +kernel) (by decide +kernel)]
  rw [show wsc g 0 b e 6 38 7 38 = _ from wsc_jump (g := g) (i := 0) (b := b) (e := e) 0 38 5 7 38 (by decide +kernel) (by decide +kernel)]
  rfl
set_option maxRecDepth 20000 in
theorem wkey1 (g : Nat → Nat) (b e : Nat) : wsc g 1 b e (strN.getD 1 0 + 1) 0 0 0 = (if isW g 1 b e 0 6 then some 0 else (if isW g 1 b e 7 11 then some 1 else (if isW g 1 b e 12 16 then some 2 else (if isW g 1 b e 17 22 then some 3 else (if isW g 1 b e 23 28 then some 4 else (if isW g 1 b e 29 34 then some 5 else (if isW g 1 b e 35 40 then some 6 else (if isW g 1 b e 41 47 then some 7 else (if isW g 1 b e 48 53 then some 8 else (if isW g 1 b e 54 59 then some 9 else (if isW g 1 b e 60 64 then some 10 else none))))))))))) := by
  rw [show wsc g 1 b e (strN.getD 1 0 + 1) 0 0 0 = _ from wsc_jump (g := g) (i := 1) (b := b) (e := e) 58 0 6 0 0 (by decide +kernel) (by decide +kernel)]
  rw [show wsc g 1 b e 58 7 1 7 = _ from wsc_jump (g := g) (i := 1) (b := b) (e := e) 53 7 4 1 7 (by decide +kernel) (by decide +kernel)]
  rw [show wsc g 1 b e 53 12 2 12 = _ from wsc_jump (g := g) (i := 1) (b := b) (e := e) 48 12 4 2 12 (by decide +kernel) (by decide +kernel)]
  rw [show wsc g 1 b e 48 17 3 17 = _ from wsc_jump (g := g) (i := 1) (b := b) (e := e) 42 17 5 3 17 (by decide +kernel) (by decide +kernel)]
  rw [show wsc g 1 b e 42 23 4 23 = _ from wsc_jump (g := g) (i := 1) (b := b) (e := e) 36 23 5 4 23 (by decide +kernel) (by decide +kernel)]
  rw [show wsc g 1 b e 36 29 5 29 = _ from wsc_jump (g := g) (i := 1) (b := b) (e := e) 30 29 5 5 29 (by decide +kernel) (by decide +kernel)]
  rw [show wsc g 1 b e 30 35 6 35 = _ from wsc_jump (g := g) (i := 1) (b := b) (e := e) 24 35 5 6 35 (by decide +kernel) (by decide +kernel)]
  rw [show wsc g 1 b e 24 41 7 41 = _ from wsc_jump (g := g) (i := 1) (b := b) (e := e) 17 41 6 7 41 (by decide +kernel) (by decide +kernel)]
  rw [show wsc g 1 b e 17 48 8 48 = _ from wsc_jump (g := g) (i := 1) (b := b) (e := e) 11 48 5 8 48 (by decide +kernel) (by decide +kernel)]
  rw [show wsc g 1 b e 11 54 9 54 = _ from wsc_jump (g := g) (i := 1) (b := b) (e := e) 5 54 5 9 54 (by decide +kernel) (by decide +kernel)]
  rw [show wsc g 1 b e 5 60 10 60 = _ from wsc_jump (g := g) (i := 1) (b := b) (e := e) 0 60 4 10 60 (by decide +kernel) (by decide +kernel)]
  rfl
set_option maxRecDepth 20000 in
theorem wkey2 (g : Nat → Nat) (b e : Nat) : wsc g 2 b e (strN.getD 2 0 + 1) 0 0 0 = (if isW g 2 b e 0 5 then some 0 else (if isW g 2 b e 6 10 then some 1 else (if isW g 2 b e 11 15 then some 2 else (if isW g 2 b e 16 20 then some 3 else (if isW g 2 b e 21 25 then some 4 else (if isW g 2 b e 26 32 then some 5 else (if isW g 2 b e 33 38 then some 6 else none))))))) := by
  rw [show wsc g 2 b e (strN.getD 2 0 + 1) 0 0 0 = _ from wsc_jump (g := g) (i := 2) (b := b) (e := e) 33 0 5 0 0 (by decide +kernel) (by decide +kernel)]
  rw [show wsc g 2 b e 33 6 1 6 = _ from wsc_jump (g := g) (i := 2) (b := b) (e := e) 28 6 4 1 6 (by decide +kernel) (by decide +kernel)]
  rw [show wsc g 2 b e 28 11 2 11 = _ from wsc_jump (g := g) (i := 2) (b := b) (e := e) 23 11 4 2 11 (by decide +kernel) (by decide +kernel)]
  rw [show wsc g 2 b e 23 16 3 16 = _ from wsc_jump (g := g) (i := 2) (b := b) (e := e) 18 16 4 3 16 (by decide +kernel) (by decide +kernel)]
  rw [show wsc g 2 b e 18 21 4 21 = _ from wsc_jump (g := g) (i := 2) (b := b) (e := e) 13 21 4 4 21 (by decide +kernel) (by decide +kernel)]
  rw [show wsc g 2 b e 13 26 5 26 = _ from wsc_jump (g := g) (i := 2) (b := b) (e := e) 6 26 6 5 26 (by decide +kernel) (by decide +kernel)]
  rw [show wsc g 2 b e 6 33 6 33 = _ from wsc_jump (g := g) (i := 2) (b := b) (e := e) 0 33 5 6 33 (by decide +kernel) (by decide +kernel)]
  rfl
theorem w0_lt {g : Nat → Nat} {len a w : Nat} (h : wrd g len 0 a = some w) : w < 8 := by
  unfold wrd at h
  rw [wkey0] at h
  repeat' split at h
  all_goals first | (injection h with h; omega) | cases h
theorem w1_lt {g : Nat → Nat} {len a w : Nat} (h : wrd g len 1 a = some w) : w < 11 := by
  unfold wrd at h
  rw [wkey1] at h
  repeat' split at h
  all_goals first | (injection h with h; omega) | cases h
theorem w2_lt {g : Nat → Nat} {len a w : Nat} (h : wrd g len 2 a = some w) : w < 7 := by
  unfold wrd at h
  rw [wkey2] at h
  repeat' split at h
  all_goals first | (injection h with h; omega) | cases h
theorem pH_end {g : Nat → Nat} {len m a : Nat} {h : HS} (h1 : nxV g len a = -1) : pHouse g len (m + 1) h a = .ok (h, skip g len a) := by
  unfold pHouse
  rw [if_pos h1]
theorem pH_word {g : Nat → Nat} {len m a : Nat} {h : HS} {e : PE} (h1 : ¬ nxV g len a = -1) (h2 : pWord g len 0 a = .error e) : pHouse g len (m + 1) h a = .error e := by
  unfold pHouse
  rw [if_neg h1, h2]
theorem pH_many {g : Nat → Nat} {len m a : Nat} {h : HS} {q : Nat × Nat} (h1 : ¬ nxV g len a = -1) (h2 : pWord g len 0 a = .ok q) (hm : m = 0) : pHouse g len (m + 1) h a = .error (3, skip g len a) := by
  unfold pHouse
  rw [if_neg h1, h2]
  show (if _ then _ else _) = _
  rw [if_pos hm]
theorem pH_cl {g : Nat → Nat} {len m a : Nat} {h : HS} {q : Nat × Nat} {e : PE} (h1 : ¬ nxV g len a = -1) (h2 : pWord g len 0 a = .ok q) (hm : m ≠ 0) (h3 : pClause g len q.1 h (skip g len a) q.2 = .error e) : pHouse g len (m + 1) h a = .error e := by
  unfold pHouse
  rw [if_neg h1, h2]
  show (if _ then _ else _) = _
  rw [if_neg hm, h3]
theorem pH_tk {g : Nat → Nat} {len m a : Nat} {h : HS} {q : Nat × Nat} {r : HS × Nat} {e : PE} (h1 : ¬ nxV g len a = -1) (h2 : pWord g len 0 a = .ok q) (hm : m ≠ 0) (h3 : pClause g len q.1 h (skip g len a) q.2 = .ok r) (h4 : pTake g len 59 r.2 = .error e) : pHouse g len (m + 1) h a = .error e := by
  unfold pHouse
  rw [if_neg h1, h2]
  show (if _ then _ else _) = _
  rw [if_neg hm, h3]
  show (match pTake g len 59 r.2 with | .error e => _ | .ok a2 => _) = _
  rw [h4]
theorem pH_go {g : Nat → Nat} {len m a a2 : Nat} {h : HS} {q : Nat × Nat} {r : HS × Nat} (h1 : ¬ nxV g len a = -1) (h2 : pWord g len 0 a = .ok q) (hm : m ≠ 0) (h3 : pClause g len q.1 h (skip g len a) q.2 = .ok r) (h4 : pTake g len 59 r.2 = .ok a2) : pHouse g len (m + 1) h a = pHouse g len m r.1 a2 := by
  rw [pHouse, if_neg h1, h2]
  show (if _ then _ else _) = _
  rw [if_neg hm, h3]
  show (match pTake g len 59 r.2 with | .error e => _ | .ok a2 => _) = _
  rw [h4]
set_option maxHeartbeats 8000000 in
set_option maxRecDepth 20000 in
theorem c_X3_read {g : Nat → Nat} {len a : Nat} {x : XS} (hT : TP x g len a) : MM mX3_read 6 0 0 [.ref 13, .ref 1] x (fun v x1 => v = some (.int (bI (okB (pHouse g len 61 h0 a)))) ∧ PO SH x x1 g len (pHouse g len 61 h0 a) (fun q => q.2) ∧ ∀ q, pHouse g len 61 h0 a = .ok q → DI x1 q.1) NoT := by
  refine MM.of (by decide) (Nat.le_of_ble_eq_true rfl) ?_
  have y1 := lay_1
  have y2 := lay_2
  have y13 := lay_13
  have y14 := lay_14
  have y15 := lay_15
  have y16 := lay_16
  have y17 := lay_17
  have y18 := lay_18
  have y19 := lay_19
  have y20 := lay_20
  have y21 := lay_21
  have y22 := lay_22
  have A0 : AC SH x (clearX x) := ((((AC.rfl.puts (SH_ (by decide) (by decide)) (by decide)).puts (SH_ (by decide) (by decide)) (by decide)).puts (SH_ (by decide) (by decide)) (by decide)).puts (SH_ (by decide) (by decide)) (by decide)).put (SH_ (by decide) (by decide)) (by decide)
  have T0 : TP (clearX x) g len a := hT
  have D0 : DI (clearX x) h0 := ⟨rfl, rfl, rfl, rfl, Nat.zero_le _, Nat.zero_le _, fun k _ p hp => absurd hp (Nat.not_lt_zero p), fun m hm => by
    show zfill (x 22) 60 m = nI 0
    exact zfill_lt 60 hm⟩
  refine r_aload_n dX3_read_0 rfl (by rfl) ?_
  refine r_callV c_X3_clear mv_X3_clear ml_X3_52 ⟨by decide, by decide⟩ dX3_read_1 (by first | assumption | rfl) rfl rfl rfl (Nat.le_of_ble_eq_true rfl) (fun v9 x9 h9 => ?_)
  obtain ⟨rfl, h9⟩ := h9
  refine PW.xeq h9 ?_
  clear h9 x9
  refine r_iconst (v := nI 0) dX3_read_4 (by decide) ?_
  refine r_istore_n dX3_read_5 rfl (by decide) ?_
  refine PW.loop (σ := Nat × HS × Nat × XS) (fun s => 61 - s.1) (fun s => s.1 ≤ 60 ∧ AC SH x s.2.2.2 ∧ TP s.2.2.2 g len s.2.2.1 ∧ DI s.2.2.2 s.2.1 ∧ pHouse g len (61 - s.1) s.2.1 s.2.2.1 = pHouse g len 61 h0 a) (fun s => [(0, .ref 13), (1, .ref 1), (2, .int (nI s.1))]) (fun s => s.2.2.2) ((0, h0, a, clearX x)) (⟨Nat.zero_le _, A0, T0, D0, rfl⟩) rfl rfl (fun s hs sh => ?_)
  obtain ⟨hs1, hA, hTs, hD, hR⟩ := hs
  refine r_iload_n dX3_read_6 rfl (by rfl) ?_
  refine r_bipush (v := nI 60) dX3_read_7 (by decide) ?_
  refine r_icmp_gtN (tgt := 76) dX3_read_9 (by decide) (by omega) (by omega) (fun h9 => by exfalso; omega) (fun _ => ?_)
  refine r_aload_n dX3_read_12 rfl (by rfl) ?_
  refine r_callV (c_X8_next hTs) mv_X8_next ml_X3_55 ⟨by decide, by decide⟩ dX3_read_13 (by first | assumption | rfl) rfl rfl rfl (Nat.le_of_ble_eq_true rfl) (fun v9 x9 h9 => ?_)
  obtain ⟨rfl, h9⟩ := h9
  refine PW.xeq h9 ?_
  clear h9 x9
  refine r_iconst (v := -1) dX3_read_16 (by decide) ?_
  have B0 : TP (atX s.2.2.2 (skip g len s.2.2.1)) g len (skip g len s.2.2.1) := hTs.at (skip_le hTs.2.2.2.1)
  refine r_icmp_eq (tgt := 76) dX3_read_17 (by decide) (fun h17 => ?_) (fun h17 => ?_)
  · refine r_iconst (v := nI 1) dX3_read_76 (by decide) ?_
    refine r_zret rfl (by first | exact bI_01 _ | exact Or.inl rfl | exact Or.inr rfl) dX3_read_77 ?_
    have w : pHouse g len 61 h0 a = .ok (s.2.1, skip g len s.2.2.1) := by rw [← hR, show 61 - s.1 = (60 - s.1) + 1 by omega]; exact pH_end h17
    rw [w]
    refine ⟨rfl, hA.at.fin (q := (s.2.1, skip g len s.2.2.1)) B0 rfl, fun q hq => ?_⟩
    injection hq with hq
    subst hq
    exact hD.at
  · refine r_aload_n dX3_read_20 rfl (by rfl) ?_
    refine r_ldcS (i := 0) rfl dX3_read_21 ?_
    refine r_callV (c_X8_word (i := 0) B0 (by decide)) mv_X8_word ml_X3_63 ⟨by decide, by decide⟩ dX3_read_23 (by first | assumption | rfl) rfl rfl rfl (Nat.le_of_ble_eq_true rfl) (fun v9 x9 h9 => ?_)
    obtain ⟨rfl, h9⟩ := h9
    obtain ⟨v9, f1, e9, q1, b1⟩ := word_rel (x := (atX s.2.2.2 (skip g len s.2.2.1))) (i := 0) B0
    refine PW.topi v9 ?_
    refine PW.xeq (h9.trans e9) ?_
    clear h9 x9 v9 e9
    refine r_istore_n dX3_read_26 rfl (by decide) ?_
    refine r_iload_n dX3_read_27 rfl (by rfl) ?_
    refine r_iconst (v := -1) dX3_read_28 (by decide) ?_
    refine r_icmp_ne (tgt := 34) dX3_read_29 (by decide) (fun h29 => ?_) (fun h29 => ?_)
    · obtain ⟨w, hw1, hw2⟩ := pWord_ne h29
      rw [show pI (pWord g len 0 (skip g len s.2.2.1)) = nI w by rw [hw2]; rfl]
      rw [pWord_skip, skip_skip] at hw2
      rw [wrd_skip] at hw1
      have hw8 : w < 8 := w0_lt hw1
      have B2 : TP (xr (atX s.2.2.2 (skip g len s.2.2.1)) 1 f1) g len (smE g len (skip g len s.2.2.1)) := by
        exact q1.tp B0 ((pWord_skip g len 0 s.2.2.1).trans hw2)
      have A2 : AC SH x (xr (atX s.2.2.2 (skip g len s.2.2.1)) 1 f1) := hA.at.pf q1 ((pWord_skip g len 0 s.2.2.1).trans hw2)
      have E2 : (xr (atX s.2.2.2 (skip g len s.2.2.1)) 1 f1) 1 6 = nI (skip g len s.2.2.1) := by
        rw [skip_skip] at b1
        exact b1
      have D2 : DI (xr (atX s.2.2.2 (skip g len s.2.2.1)) 1 f1) s.2.1 := hD.at.one
      refine r_iload_n dX3_read_34 rfl (by rfl) ?_
      refine r_bipush (v := nI 60) dX3_read_35 (by decide) ?_
      refine r_icmp_neN (tgt := 50) dX3_read_37 (by decide) (by omega) (by omega) (fun h37 => ?_) (fun h37 => ?_)
      · refine r_aload_n dX3_read_50 rfl (by rfl) ?_
        refine r_aload_n dX3_read_51 rfl (by rfl) ?_
        refine r_iload_n dX3_read_52 rfl (by rfl) ?_
        refine r_callV (c_X3_readClause B2 D2 E2 hw8) mv_X3_readClause ml_X3_74 ⟨by decide, by decide⟩ dX3_read_53 (by first | assumption | rfl) rfl rfl rfl (Nat.le_of_ble_eq_true rfl) (fun v9 x3 h3 => ?_)
        obtain ⟨rfl, h3⟩ := h3
        refine r_if_eqB (tgt := 68) dX3_read_56 (by decide) (fun h56 => ?_) (fun h56 => ?_)
        · refine r_iconst (v := nI 0) dX3_read_68 (by decide) ?_
          refine r_zret rfl (by first | exact bI_01 _ | exact Or.inl rfl | exact Or.inr rfl) dX3_read_69 ?_
          first
            | (obtain ⟨er, e4⟩ := okB_f h65
               have w : pHouse g len 61 h0 a = .error er := by rw [← hR, show 61 - s.1 = (60 - s.1) + 1 by omega]; exact pH_tk h17 hw2 (by omega) e3 e4
               rw [w]
               exact ⟨rfl, A3.err q4 e4 rfl, fun q hq => by cases hq⟩)
            | (obtain ⟨er, e3⟩ := okB_f h56
               have w : pHouse g len 61 h0 a = .error er := by rw [← hR, show 61 - s.1 = (60 - s.1) + 1 by omega]; exact pH_cl h17 hw2 (by omega) e3
               rw [w]
               exact ⟨rfl, A2.perr h3.1 e3 rfl, fun q hq => by cases hq⟩)
        · obtain ⟨r3, e3⟩ := okB_t h56
          have B3 := (h3.1.ok e3).1
          have A3 := A2.of h3.1 e3
          have D3 := h3.2 r3 e3
          refine r_aload_n dX3_read_59 rfl (by rfl) ?_
          refine r_bipush (v := nI 59) dX3_read_60 (by decide) ?_
          refine r_callV (c_X8_take B3) mv_X8_take ml_X3_78 ⟨by decide, by decide⟩ dX3_read_62 (by first | assumption | rfl) rfl rfl rfl (Nat.le_of_ble_eq_true rfl) (fun v9 x9 h9 => ?_)
          obtain ⟨rfl, h9⟩ := h9
          obtain ⟨v9, f4, e9, q4⟩ := tak_rel (x := x3) (c := 59) B3
          have q4 := q4 (by decide +kernel)
          refine PW.topi (congrArg bI v9) ?_
          refine PW.xeq (h9.trans e9) ?_
          clear h9 x9 v9 e9
          refine r_if_neB (tgt := 70) dX3_read_65 (by decide) (fun h65 => ?_) (fun h65 => ?_)
          · obtain ⟨a4, e4⟩ := okB_t h65
            have B4 := q4.tp B3 e4
            have A4 := A3.pf q4 e4
            refine r_iincN dX3_read_70 (by rfl) (by decide) ?_
            refine r_goto (tgt := 6) dX3_read_73 (by decide) ?_
            exact PW.lc (by rfl) rfl (sh (s.1 + 1, r3.1, a4, xr x3 1 f4) ⟨(show s.1 + 1 ≤ 60 by omega), A4, B4, D3.one, by
              rw [← hR, show 61 - s.1 = (61 - (s.1 + 1)) + 1 by omega]
              exact (pH_go h17 hw2 (by omega) e3 e4).symm⟩ (show 61 - (s.1 + 1) < 61 - s.1 by omega))
          · refine r_iconst (v := nI 0) dX3_read_68 (by decide) ?_
            refine r_zret rfl (by first | exact bI_01 _ | exact Or.inl rfl | exact Or.inr rfl) dX3_read_69 ?_
            first
              | (obtain ⟨er, e4⟩ := okB_f h65
                 have w : pHouse g len 61 h0 a = .error er := by rw [← hR, show 61 - s.1 = (60 - s.1) + 1 by omega]; exact pH_tk h17 hw2 (by omega) e3 e4
                 rw [w]
                 exact ⟨rfl, A3.err q4 e4 rfl, fun q hq => by cases hq⟩)
              | (obtain ⟨er, e3⟩ := okB_f h56
                 have w : pHouse g len 61 h0 a = .error er := by rw [← hR, show 61 - s.1 = (60 - s.1) + 1 by omega]; exact pH_cl h17 hw2 (by omega) e3
                 rw [w]
                 exact ⟨rfl, A2.perr h3.1 e3 rfl, fun q hq => by cases hq⟩)
      · refine r_aload_n dX3_read_40 rfl (by rfl) ?_
        refine r_iconst (v := nI 3) dX3_read_41 (by decide) ?_
        refine r_aload_n dX3_read_42 rfl (by rfl) ?_
        refine gf_X3_67 rfl dX3_read_43 (by first | assumption | rfl) (by rfl) ?_
        refine PW.topi E2 ?_
        refine r_callV c_X8_fail mv_X8_fail ml_X3_70 ⟨by decide, by decide⟩ dX3_read_46 (by first | assumption | rfl) rfl rfl rfl (Nat.le_of_ble_eq_true rfl) (fun v9 x9 h9 => ?_)
        obtain ⟨rfl, h9⟩ := h9
        refine PW.xeq h9 ?_
        clear h9 x9
        refine r_zret rfl (by first | exact bI_01 _ | exact Or.inl rfl | exact Or.inr rfl) dX3_read_49 ?_
        have w : pHouse g len 61 h0 a = .error (3, skip g len s.2.2.1) := by rw [← hR, show 61 - s.1 = (60 - s.1) + 1 by omega]; exact pH_many h17 hw2 (by omega)
        rw [w]
        exact ⟨rfl, A2.fail rfl, fun q hq => by cases hq⟩
    · refine r_iconst (v := nI 0) dX3_read_32 (by decide) ?_
      refine r_zret rfl (by first | exact bI_01 _ | exact Or.inl rfl | exact Or.inr rfl) dX3_read_33 ?_
      have w0 := pWord_eq (by decide) h29
      have w1 := w0
      rw [skip_skip] at w0
      rw [pWord_skip, skip_skip] at w1
      have w : pHouse g len 61 h0 a = .error (1, skip g len s.2.2.1) := by rw [← hR, show 61 - s.1 = (60 - s.1) + 1 by omega]; exact pH_word h17 w1
      rw [w]
      exact ⟨rfl, hA.at.err q1 w0 rfl, fun q hq => by cases hq⟩
