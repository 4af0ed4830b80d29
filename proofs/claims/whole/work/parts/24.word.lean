/-! TAPE: words -/
def chN (i j : Nat) : Nat := (chV i j).toNatClampNeg
set_option maxRecDepth 100000 in
theorem chN_ok : ∀ i, i < 25 → ∀ j, j < strN.getD i 0 → chV i j = nI (chN i j) ∧ chN i j < 256 := by decide +kernel
def small (c : Nat) : Bool := decide (97 ≤ c) && decide (c ≤ 122)
theorem small_iff {c : Nat} : small c = true ↔ 97 ≤ c ∧ c ≤ 122 := by unfold small; simp
def sme (g : Nat → Nat) (len : Nat) : Nat → Nat → Nat
  | 0, a => a
  | n + 1, a => if a < len ∧ small (g a) = true then sme g len n (a + 1) else a
/-- where the small letters from a on end -/
def smE (g : Nat → Nat) (len a : Nat) : Nat := sme g len (len - a) a
theorem smE_s {g : Nat → Nat} {len a : Nat} (h : a < len) (h2 : small (g a) = true) : smE g len a = smE g len (a + 1) := by
  unfold smE
  rw [show len - a = (len - (a + 1)) + 1 by omega]
  show (if _ then _ else _) = _
  rw [if_pos ⟨h, h2⟩]
theorem smE_e {g : Nat → Nat} {len a : Nat} (h : ¬ (a < len ∧ small (g a) = true)) : smE g len a = a := by
  unfold smE
  cases len - a with
  | zero => rfl
  | succ n =>
    show (if _ then _ else _) = _
    rw [if_neg h]
theorem sme_le (g : Nat → Nat) (len : Nat) : ∀ n a, a ≤ len → sme g len n a ≤ len
  | 0, _, h => h
  | n + 1, a, h => by
    unfold sme
    split
    · exact sme_le g len n (a + 1) (by omega)
    · exact h
theorem smE_le {g : Nat → Nat} {len a : Nat} (h : a ≤ len) : smE g len a ≤ len := sme_le g len _ a h
theorem sme_ge (g : Nat → Nat) (len : Nat) : ∀ n a, a ≤ sme g len n a
  | 0, _ => Nat.le_refl _
  | n + 1, a => by
    unfold sme
    split
    · exact Nat.le_trans (Nat.le_succ a) (sme_ge g len n (a + 1))
    · exact Nat.le_refl _
theorem smE_ge (g : Nat → Nat) (len a : Nat) : a ≤ smE g len a := sme_ge g len _ a
/-- the letters b to e are string i's letters f to t -/
def isW (g : Nat → Nat) (i b e f t : Nat) : Bool := decide (t - f = e - b) && decide (∀ k, k < t - f → chN i (f + k) = g (b + k))
/-- which word of string i the letters b to e are -/
def wsc (g : Nat → Nat) (i b e : Nat) : Nat → Nat → Nat → Nat → Option Nat
  | 0, _, _, _ => none
  | n + 1, j, w, f => if j = strN.getD i 0 ∨ chN i j = 32 then (if isW g i b e f j then some w else wsc g i b e n (j + 1) (w + 1) (j + 1)) else wsc g i b e n (j + 1) w f
def wI : Option Nat → Int32
  | some w => nI w
  | none => -1
def wrd (g : Nat → Nat) (len i a : Nat) : Option Nat := wsc g i (skip g len a) (smE g len (skip g len a)) (strN.getD i 0 + 1) 0 0 0
def wrdX (x : XS) (g : Nat → Nat) (len i a : Nat) : XS :=
  match wrd g len i a with
  | some _ => nuS x (skip g len a) (smE g len (skip g len a))
  | none => failX (nuS x (skip g len a) (smE g len (skip g len a))) 1 (skip g len a)
theorem TP.nu {x : XS} {g : Nat → Nat} {len a b c : Nat} (h : TP x g len a) (hb : c ≤ len) : TP (nuS x b c) g len c := ⟨by unfold nuS; rw [xu_k (by decide), xu_k (by decide)]; exact h.1, h.2.1, xu_s, hb, fun j hj => by unfold nuS; rw [xu_n (by decide), xu_n (by decide)]; exact h.2.2.2.2 j hj⟩
set_option maxRecDepth 100000 in
theorem strN_600 : ∀ i, i < 25 → strN.getD i 0 < 100 := by decide +kernel

set_option maxHeartbeats 8000000 in
set_option maxRecDepth 20000 in
theorem c_X8_isWord {g : Nat → Nat} {len i b e f t : Nat} {x : XS} (hT : TP x g len e) (hb : x 1 6 = nI b) (hbe : b ≤ e) (hi : i < 25) (hft : f ≤ t) (ht : t ≤ strN.getD i 0) : MM mX8_isWord 4 0 0 [.ref 1, .ref (1000 + i), .int (nI f), .int (nI t)] x (fun v x1 => v = some (.int (bI (isW g i b e f t))) ∧ x1 = x) NoT := by
  refine MM.of (by decide) (Nat.le_of_ble_eq_true rfl) ?_
  have y1 := lay_1
  have y2 := lay_2
  have hl := hT.2.1
  have hel := hT.2.2.2.1
  have hs6 := strN_600 i hi
  refine r_iload_n dX8_isWord_0 rfl (by rfl) ?_
  refine r_iload_n dX8_isWord_1 rfl (by rfl) ?_
  refine r_isubN dX8_isWord_2 (by omega) ?_
  refine r_aload_n dX8_isWord_3 rfl (by rfl) ?_
  refine gf_X8_22 rfl dX8_isWord_4 (by first | assumption | rfl) (by rfl) ?_
  refine PW.topi (show _ = nI e from hT.2.2.1) ?_
  refine r_aload_n dX8_isWord_7 rfl (by rfl) ?_
  refine gf_X8_31 rfl dX8_isWord_8 (by first | assumption | rfl) (by rfl) ?_
  refine PW.topi (show _ = nI b from hb) ?_
  refine r_isubN dX8_isWord_11 (by omega) ?_
  refine r_icmp_eqN (tgt := 17) dX8_isWord_12 (by decide) (by omega) (by omega) (fun h12 => ?_) (fun h12 => ?_)
  · refine r_iconst (v := nI 0) dX8_isWord_17 (by decide) ?_
    refine r_istore dX8_isWord_18 (by decide) ?_
    refine PW.loop (σ := Nat) (fun k => t - f - k) (fun k => k ≤ t - f ∧ ∀ j, j < k → chN i (f + j) = g (b + j)) (fun k => [(0, .ref 1), (1, .ref (1000 + i)), (2, .int (nI f)), (3, .int (nI t)), (4, .int (nI k))]) (fun _ => x) (0) (⟨Nat.zero_le _, fun j hj => absurd hj (Nat.not_lt_zero j)⟩) rfl rfl (fun k hk kh => ?_)
    have hk1 := hk.1
    refine r_iload dX8_isWord_20 (by rfl) ?_
    refine r_iload_n dX8_isWord_22 rfl (by rfl) ?_
    refine r_iload_n dX8_isWord_23 rfl (by rfl) ?_
    refine r_isubN dX8_isWord_24 (by omega) ?_
    refine r_icmp_geN (tgt := 59) dX8_isWord_25 (by decide) (by omega) (by omega) (fun h25 => ?_) (fun h25 => ?_)
    · refine r_iconst (v := nI 1) dX8_isWord_59 (by decide) ?_
      refine r_zret rfl (by first | exact bI_01 _ | exact Or.inl rfl | exact Or.inr rfl) dX8_isWord_60 ?_
      refine ⟨?_, rfl⟩
      unfold isW
      rw [decide_eq_true h12, decide_eq_true (fun j hj => hk.2 j (by omega))]
      rfl
    · refine r_aload_n dX8_isWord_28 rfl (by rfl) ?_
      refine r_iload_n dX8_isWord_29 rfl (by rfl) ?_
      refine r_iload dX8_isWord_30 (by rfl) ?_
      refine r_iaddN dX8_isWord_32 ?_
      have hfk : f + k < strN.getD i 0 := by omega
      refine r_callVX (i9 := i) (c_charAt hi hfk) mv_J0_charAt_5068e ml_X8_57 ⟨by decide, by decide⟩ dX8_isWord_33 hi rfl rfl (Nat.le_of_ble_eq_true rfl) (fun v9 x9 h9 => ?_)
      obtain ⟨rfl, h9⟩ := h9
      refine PW.xeq h9 ?_
      clear h9 x9
      refine PW.topi (chN_ok i hi _ hfk).1 ?_
      have c6 := (chN_ok i hi _ hfk).2
      have g6 := (hT.2.2.2.2 (b + k) (by omega)).2
      refine r_aload_n dX8_isWord_36 rfl (by rfl) ?_
      refine gf_X8_9 rfl dX8_isWord_37 (by first | assumption | rfl) (by rfl) ?_
      refine r_aload_n dX8_isWord_40 rfl (by rfl) ?_
      refine gf_X8_31 rfl dX8_isWord_41 (by first | assumption | rfl) (by rfl) ?_
      refine PW.topi (show _ = nI b from hb) ?_
      refine r_iload dX8_isWord_44 (by rfl) ?_
      refine r_iaddN dX8_isWord_46 ?_
      refine r_ialdN dX8_isWord_47 (by first | assumption | rfl) (by omega) (by decide) ?_
      refine PW.topi (show _ = nI (g (b + k)) from (hT.2.2.2.2 (b + k) (by omega)).1) ?_
      refine r_icmp_eqN (tgt := 53) dX8_isWord_48 (by decide) (by omega) (by omega) (fun h48 => ?_) (fun h48 => ?_)
      · refine r_iincN dX8_isWord_53 (by rfl) (by decide) ?_
        refine r_goto (tgt := 20) dX8_isWord_56 (by decide) ?_
        exact PW.lc (by rfl) rfl (kh (k + 1) ⟨by omega, fun j hj => (Decidable.em (j = k)).elim (fun q => by subst q; exact h48) (fun q => hk.2 j (by omega))⟩ (by omega))
      · refine r_iconst (v := nI 0) dX8_isWord_51 (by decide) ?_
        refine r_zret rfl (by first | exact bI_01 _ | exact Or.inl rfl | exact Or.inr rfl) dX8_isWord_52 ?_
        refine ⟨?_, rfl⟩
        unfold isW
        rw [decide_eq_true h12, decide_eq_false (fun q => h48 (q k (by omega)))]
        rfl
  · refine r_iconst (v := nI 0) dX8_isWord_15 (by decide) ?_
    refine r_zret rfl (by first | exact bI_01 _ | exact Or.inl rfl | exact Or.inr rfl) dX8_isWord_16 ?_
    refine ⟨?_, rfl⟩
    unfold isW
    rw [decide_eq_false h12]
    rfl
set_option maxHeartbeats 8000000 in
set_option maxRecDepth 20000 in
theorem c_X8_word {g : Nat → Nat} {len a i : Nat} {x : XS} (hT : TP x g len a) (hi : i < 25) : MM mX8_word 5 0 0 [.ref 1, .ref (1000 + i)] x (fun v x1 => v = some (.int (wI (wrd g len i a))) ∧ x1 = wrdX x g len i a) NoT := by
  refine MM.of (by decide) (Nat.le_of_ble_eq_true rfl) ?_
  have y1 := lay_1
  have y2 := lay_2
  have hl := hT.2.1
  have hE : smE g len (skip g len a) ≤ len := smE_le (skip_le hT.2.2.2.1)
  have hs6 := strN_600 i hi
  refine r_aload_n dX8_word_0 rfl (by rfl) ?_
  refine r_callV (c_X8_next hT) mv_X8_next ml_X8_44 ⟨by decide, by decide⟩ dX8_word_1 (by first | assumption | rfl) rfl rfl rfl (Nat.le_of_ble_eq_true rfl) (fun v9 x9 h9 => ?_)
  obtain ⟨rfl, h9⟩ := h9
  refine PW.xeq h9 ?_
  clear h9 x9
  refine r_pop dX8_word_4 rfl ?_
  refine r_aload_n dX8_word_5 rfl (by rfl) ?_
  refine r_aload_n dX8_word_6 rfl (by rfl) ?_
  refine gf_X8_22 rfl dX8_word_7 (by first | assumption | rfl) (by rfl) ?_
  refine PW.topi (show _ = nI (skip g len a) from xu_s) ?_
  refine pf_X8_31 rfl dX8_word_10 (by first | assumption | rfl) (by rfl) ?_
  refine PW.loop (σ := Nat) (fun k => len - k) (fun k => k ≤ len ∧ skip g len a ≤ k ∧ smE g len k = smE g len (skip g len a)) (fun k => [(0, .ref 1), (1, .ref (1000 + i))]) (fun k => nuS x (skip g len a) k) (skip g len a) (⟨skip_le hT.2.2.2.1, Nat.le_refl _, rfl⟩) rfl (xu_comm (by decide)) (fun k hk kh => ?_)
  have hk1 := hk.1
  refine r_aload_n dX8_word_13 rfl (by rfl) ?_
  refine gf_X8_22 rfl dX8_word_14 (by first | assumption | rfl) (by rfl) ?_
  refine PW.topi (show _ = nI k from xu_s) ?_
  refine r_aload_n dX8_word_17 rfl (by rfl) ?_
  refine gf_X8_19 rfl dX8_word_18 (by first | assumption | rfl) (by rfl) ?_
  refine PW.topi (show _ = nI len by unfold nuS; rw [xu_k (by decide), xu_k (by decide)]; exact hT.1) ?_
  refine r_icmp_geN (tgt := 65) dX8_word_21 (by decide) (by omega) (by omega) (fun h21 => ?_) (fun h21 => ?_)
  · have hw : smE g len (skip g len a) = k := by
      rw [← hk.2.2]
      exact smE_e (by intro q; have q2 := small_iff.mp q.2; omega)
    refine PW.xeq (show nuS x (skip g len a) k = nuS x (skip g len a) (smE g len (skip g len a)) by rw [hw]) ?_
    refine r_iconst (v := nI 0) dX8_word_65 (by decide) ?_
    refine r_istore_n dX8_word_66 rfl (by decide) ?_
    refine r_iconst (v := nI 0) dX8_word_67 (by decide) ?_
    refine r_istore_n dX8_word_68 rfl (by decide) ?_
    refine r_iconst (v := nI 0) dX8_word_69 (by decide) ?_
    refine r_istore dX8_word_70 (by decide) ?_
    refine PW.loop (σ := Nat × Nat × Nat) (fun s => strN.getD i 0 + 1 - s.1) (fun s => s.1 ≤ strN.getD i 0 + 1 ∧ s.2.2 ≤ s.1 ∧ wsc g i (skip g len a) (smE g len (skip g len a)) (strN.getD i 0 + 1 - s.1) s.1 s.2.1 s.2.2 = wrd g len i a) (fun s => [(0, .ref 1), (1, .ref (1000 + i)), (2, .int (nI s.2.1)), (3, .int (nI s.2.2)), (4, .int (nI s.1))]) (fun _ => nuS x (skip g len a) (smE g len (skip g len a))) ((0, 0, 0)) (⟨Nat.zero_le _, Nat.le_refl _, rfl⟩) rfl rfl (fun s hs sh => ?_)
    have hs1 := hs.1
    refine r_iload dX8_word_72 (by rfl) ?_
    refine r_aload_n dX8_word_74 rfl (by rfl) ?_
    refine r_callVX (i9 := i) (c_length hi) mv_J0_length_8abf5 ml_X8_53 ⟨by decide, by decide⟩ dX8_word_75 hi rfl rfl (Nat.le_of_ble_eq_true rfl) (fun v9 x9 h9 => ?_)
    obtain ⟨rfl, h9⟩ := h9
    refine PW.xeq h9 ?_
    clear h9 x9
    refine r_icmp_gtN (tgt := 128) dX8_word_78 (by decide) (by omega) (by omega) (fun h78 => ?_) (fun h78 => ?_)
    · refine r_aload_n dX8_word_128 rfl (by rfl) ?_
      refine r_iconst (v := nI 1) dX8_word_129 (by decide) ?_
      refine r_aload_n dX8_word_130 rfl (by rfl) ?_
      refine gf_X8_31 rfl dX8_word_131 (by first | assumption | rfl) (by rfl) ?_
      refine PW.topi (show _ = nI (skip g len a) by unfold nuS; rw [xu_k (by decide), xu_s]) ?_
      refine r_callV c_X8_fail mv_X8_fail ml_X8_40 ⟨by decide, by decide⟩ dX8_word_134 (by first | assumption | rfl) rfl rfl rfl (Nat.le_of_ble_eq_true rfl) (fun v9 x9 h9 => ?_)
      obtain ⟨rfl, h9⟩ := h9
      refine PW.xeq h9 ?_
      clear h9 x9
      refine r_pop dX8_word_137 rfl ?_
      refine r_iconst (v := -1) dX8_word_138 (by decide) ?_
      refine r_iret rfl dX8_word_139 ?_
      have hz : wrd g len i a = none := by
        rw [← hs.2.2, show strN.getD i 0 + 1 - s.1 = 0 by omega]
        rfl
      unfold wrdX
      rw [hz]
      exact ⟨rfl, rfl⟩
    · refine r_iload dX8_word_81 (by rfl) ?_
      refine r_aload_n dX8_word_83 rfl (by rfl) ?_
      refine r_callVX (i9 := i) (c_length hi) mv_J0_length_8abf5 ml_X8_53 ⟨by decide, by decide⟩ dX8_word_84 hi rfl rfl (Nat.le_of_ble_eq_true rfl) (fun v9 x9 h9 => ?_)
      obtain ⟨rfl, h9⟩ := h9
      refine PW.xeq h9 ?_
      clear h9 x9
      refine r_icmp_eqN (tgt := 101) dX8_word_87 (by decide) (by omega) (by omega) (fun h87 => ?_) (fun h87 => ?_)
      · refine r_aload_n dX8_word_101 rfl (by rfl) ?_
        refine r_aload_n dX8_word_102 rfl (by rfl) ?_
        refine r_iload_n dX8_word_103 rfl (by rfl) ?_
        refine r_iload dX8_word_104 (by rfl) ?_
        refine r_callV (c_X8_isWord (hT.nu hE) (show nuS x (skip g len a) (smE g len (skip g len a)) 1 6 = nI (skip g len a) by unfold nuS; rw [xu_k (by decide), xu_s]) (smE_ge g len _) hi hs.2.1 (by omega)) mv_X8_isWord ml_X8_61 ⟨by decide, by decide⟩ dX8_word_106 (by first | assumption | rfl) rfl rfl rfl (Nat.le_of_ble_eq_true rfl) (fun v9 x9 h9 => ?_)
        obtain ⟨rfl, h9⟩ := h9
        refine PW.xeq h9 ?_
        clear h9 x9
        refine r_if_eqB (tgt := 114) dX8_word_109 (by decide) (fun h109 => ?_) (fun h109 => ?_)
        · refine r_iincN dX8_word_114 (by rfl) (by decide) ?_
          refine r_iload dX8_word_117 (by rfl) ?_
          refine r_iconst (v := nI 1) dX8_word_119 (by decide) ?_
          refine r_iaddN dX8_word_120 ?_
          refine r_istore_n dX8_word_121 rfl (by decide) ?_
          refine r_iincN dX8_word_122 (by rfl) (by decide) ?_
          refine r_goto (tgt := 72) dX8_word_125 (by decide) ?_
          first
            | exact PW.lc (by rfl) rfl (sh (s.1 + 1, s.2.1 + 1, s.1 + 1) ⟨(show s.1 + 1 ≤ strN.getD i 0 + 1 by omega), Nat.le_refl _, by
                rw [← hs.2.2, (show strN.getD i 0 + 1 - s.1 = (strN.getD i 0 - s.1) + 1 by omega)]
                show wsc g i (skip g len a) (smE g len (skip g len a)) (strN.getD i 0 + 1 - (s.1 + 1)) (s.1 + 1) (s.2.1 + 1) (s.1 + 1) = (if _ then _ else _)
                rw [if_pos (by omega), if_neg (by rw [h109]; decide), show strN.getD i 0 + 1 - (s.1 + 1) = strN.getD i 0 - s.1 by omega]⟩ (show strN.getD i 0 + 1 - (s.1 + 1) < strN.getD i 0 + 1 - s.1 by omega))
            | exact PW.lc (by rfl) rfl (sh (s.1 + 1, s.2.1, s.2.2) ⟨(show s.1 + 1 ≤ strN.getD i 0 + 1 by omega), (show s.2.2 ≤ s.1 + 1 from Nat.le_succ_of_le hs.2.1), by
                rw [← hs.2.2, (show strN.getD i 0 + 1 - s.1 = (strN.getD i 0 - s.1) + 1 by omega)]
                show wsc g i (skip g len a) (smE g len (skip g len a)) (strN.getD i 0 + 1 - (s.1 + 1)) (s.1 + 1) s.2.1 s.2.2 = (if _ then _ else _)
                rw [if_neg (by omega), show strN.getD i 0 + 1 - (s.1 + 1) = strN.getD i 0 - s.1 by omega]⟩ (show strN.getD i 0 + 1 - (s.1 + 1) < strN.getD i 0 + 1 - s.1 by omega))
        · refine r_iload_n dX8_word_112 rfl (by rfl) ?_
          refine r_iret rfl dX8_word_113 ?_
          have hz : wrd g len i a = some s.2.1 := by
            rw [← hs.2.2, (show strN.getD i 0 + 1 - s.1 = (strN.getD i 0 - s.1) + 1 by omega)]
            show (if _ then _ else _) = _
            rw [if_pos (by omega), if_pos h109]
          unfold wrdX
          rw [hz]
          exact ⟨rfl, rfl⟩
      · refine r_aload_n dX8_word_90 rfl (by rfl) ?_
        refine r_iload dX8_word_91 (by rfl) ?_
        have hfk : s.1 < strN.getD i 0 := by omega
        refine r_callVX (i9 := i) (c_charAt hi hfk) mv_J0_charAt_5068e ml_X8_57 ⟨by decide, by decide⟩ dX8_word_93 hi rfl rfl (Nat.le_of_ble_eq_true rfl) (fun v9 x9 h9 => ?_)
        obtain ⟨rfl, h9⟩ := h9
        refine PW.xeq h9 ?_
        clear h9 x9
        refine PW.topi (chN_ok i hi _ hfk).1 ?_
        have c6 := (chN_ok i hi _ hfk).2
        refine r_bipush (v := nI 32) dX8_word_96 (by decide) ?_
        refine r_icmp_neN (tgt := 122) dX8_word_98 (by decide) (by omega) (by omega) (fun h98 => ?_) (fun h98 => ?_)
        · refine r_iincN dX8_word_122 (by rfl) (by decide) ?_
          refine r_goto (tgt := 72) dX8_word_125 (by decide) ?_
          first
            | exact PW.lc (by rfl) rfl (sh (s.1 + 1, s.2.1 + 1, s.1 + 1) ⟨(show s.1 + 1 ≤ strN.getD i 0 + 1 by omega), Nat.le_refl _, by
                rw [← hs.2.2, (show strN.getD i 0 + 1 - s.1 = (strN.getD i 0 - s.1) + 1 by omega)]
                show wsc g i (skip g len a) (smE g len (skip g len a)) (strN.getD i 0 + 1 - (s.1 + 1)) (s.1 + 1) (s.2.1 + 1) (s.1 + 1) = (if _ then _ else _)
                rw [if_pos (by omega), if_neg (by rw [h109]; decide), show strN.getD i 0 + 1 - (s.1 + 1) = strN.getD i 0 - s.1 by omega]⟩ (show strN.getD i 0 + 1 - (s.1 + 1) < strN.getD i 0 + 1 - s.1 by omega))
            | exact PW.lc (by rfl) rfl (sh (s.1 + 1, s.2.1, s.2.2) ⟨(show s.1 + 1 ≤ strN.getD i 0 + 1 by omega), (show s.2.2 ≤ s.1 + 1 from Nat.le_succ_of_le hs.2.1), by
                rw [← hs.2.2, (show strN.getD i 0 + 1 - s.1 = (strN.getD i 0 - s.1) + 1 by omega)]
                show wsc g i (skip g len a) (smE g len (skip g len a)) (strN.getD i 0 + 1 - (s.1 + 1)) (s.1 + 1) s.2.1 s.2.2 = (if _ then _ else _)
                rw [if_neg (by omega), show strN.getD i 0 + 1 - (s.1 + 1) = strN.getD i 0 - s.1 by omega]⟩ (show strN.getD i 0 + 1 - (s.1 + 1) < strN.getD i 0 + 1 - s.1 by omega))
        · refine r_aload_n dX8_word_101 rfl (by rfl) ?_
          refine r_aload_n dX8_word_102 rfl (by rfl) ?_
          refine r_iload_n dX8_word_103 rfl (by rfl) ?_
          refine r_iload dX8_word_104 (by rfl) ?_
          refine r_callV (c_X8_isWord (hT.nu hE) (show nuS x (skip g len a) (smE g len (skip g len a)) 1 6 = nI (skip g len a) by unfold nuS; rw [xu_k (by decide), xu_s]) (smE_ge g len _) hi hs.2.1 (by omega)) mv_X8_isWord ml_X8_61 ⟨by decide, by decide⟩ dX8_word_106 (by first | assumption | rfl) rfl rfl rfl (Nat.le_of_ble_eq_true rfl) (fun v9 x9 h9 => ?_)
          obtain ⟨rfl, h9⟩ := h9
          refine PW.xeq h9 ?_
          clear h9 x9
          refine r_if_eqB (tgt := 114) dX8_word_109 (by decide) (fun h109 => ?_) (fun h109 => ?_)
          · refine r_iincN dX8_word_114 (by rfl) (by decide) ?_
            refine r_iload dX8_word_117 (by rfl) ?_
            refine r_iconst (v := nI 1) dX8_word_119 (by decide) ?_
            refine r_iaddN dX8_word_120 ?_
            refine r_istore_n dX8_word_121 rfl (by decide) ?_
            refine r_iincN dX8_word_122 (by rfl) (by decide) ?_
            refine r_goto (tgt := 72) dX8_word_125 (by decide) ?_
            first
              | exact PW.lc (by rfl) rfl (sh (s.1 + 1, s.2.1 + 1, s.1 + 1) ⟨(show s.1 + 1 ≤ strN.getD i 0 + 1 by omega), Nat.le_refl _, by
                  rw [← hs.2.2, (show strN.getD i 0 + 1 - s.1 = (strN.getD i 0 - s.1) + 1 by omega)]
                  show wsc g i (skip g len a) (smE g len (skip g len a)) (strN.getD i 0 + 1 - (s.1 + 1)) (s.1 + 1) (s.2.1 + 1) (s.1 + 1) = (if _ then _ else _)
                  rw [if_pos (by omega), if_neg (by rw [h109]; decide), show strN.getD i 0 + 1 - (s.1 + 1) = strN.getD i 0 - s.1 by omega]⟩ (show strN.getD i 0 + 1 - (s.1 + 1) < strN.getD i 0 + 1 - s.1 by omega))
              | exact PW.lc (by rfl) rfl (sh (s.1 + 1, s.2.1, s.2.2) ⟨(show s.1 + 1 ≤ strN.getD i 0 + 1 by omega), (show s.2.2 ≤ s.1 + 1 from Nat.le_succ_of_le hs.2.1), by
                  rw [← hs.2.2, (show strN.getD i 0 + 1 - s.1 = (strN.getD i 0 - s.1) + 1 by omega)]
                  show wsc g i (skip g len a) (smE g len (skip g len a)) (strN.getD i 0 + 1 - (s.1 + 1)) (s.1 + 1) s.2.1 s.2.2 = (if _ then _ else _)
                  rw [if_neg (by omega), show strN.getD i 0 + 1 - (s.1 + 1) = strN.getD i 0 - s.1 by omega]⟩ (show strN.getD i 0 + 1 - (s.1 + 1) < strN.getD i 0 + 1 - s.1 by omega))
          · refine r_iload_n dX8_word_112 rfl (by rfl) ?_
            refine r_iret rfl dX8_word_113 ?_
            have hz : wrd g len i a = some s.2.1 := by
              rw [← hs.2.2, (show strN.getD i 0 + 1 - s.1 = (strN.getD i 0 - s.1) + 1 by omega)]
              show (if _ then _ else _) = _
              rw [if_pos (by omega), if_pos h109]
            unfold wrdX
            rw [hz]
            exact ⟨rfl, rfl⟩
  · refine r_aload_n dX8_word_24 rfl (by rfl) ?_
    refine gf_X8_9 rfl dX8_word_25 (by first | assumption | rfl) (by rfl) ?_
    refine r_aload_n dX8_word_28 rfl (by rfl) ?_
    refine gf_X8_22 rfl dX8_word_29 (by first | assumption | rfl) (by rfl) ?_
    refine PW.topi (show _ = nI k from xu_s) ?_
    refine r_ialdN dX8_word_32 (by first | assumption | rfl) (by omega) (by decide) ?_
    refine PW.topi (show _ = nI (g k) by unfold nuS; rw [xu_n (by decide), xu_n (by decide)]; exact (hT.2.2.2.2 k (by omega)).1) ?_
    have g6 := (hT.2.2.2.2 k (by omega)).2
    refine r_bipush (v := nI 97) dX8_word_33 (by decide) ?_
    refine r_icmp_ltN (tgt := 65) dX8_word_35 (by decide) (by omega) (by omega) (fun h35 => ?_) (fun h35 => ?_)
    · have hw : smE g len (skip g len a) = k := by
        rw [← hk.2.2]
        exact smE_e (by intro q; have q2 := small_iff.mp q.2; omega)
      refine PW.xeq (show nuS x (skip g len a) k = nuS x (skip g len a) (smE g len (skip g len a)) by rw [hw]) ?_
      refine r_iconst (v := nI 0) dX8_word_65 (by decide) ?_
      refine r_istore_n dX8_word_66 rfl (by decide) ?_
      refine r_iconst (v := nI 0) dX8_word_67 (by decide) ?_
      refine r_istore_n dX8_word_68 rfl (by decide) ?_
      refine r_iconst (v := nI 0) dX8_word_69 (by decide) ?_
      refine r_istore dX8_word_70 (by decide) ?_
      refine PW.loop (σ := Nat × Nat × Nat) (fun s => strN.getD i 0 + 1 - s.1) (fun s => s.1 ≤ strN.getD i 0 + 1 ∧ s.2.2 ≤ s.1 ∧ wsc g i (skip g len a) (smE g len (skip g len a)) (strN.getD i 0 + 1 - s.1) s.1 s.2.1 s.2.2 = wrd g len i a) (fun s => [(0, .ref 1), (1, .ref (1000 + i)), (2, .int (nI s.2.1)), (3, .int (nI s.2.2)), (4, .int (nI s.1))]) (fun _ => nuS x (skip g len a) (smE g len (skip g len a))) ((0, 0, 0)) (⟨Nat.zero_le _, Nat.le_refl _, rfl⟩) rfl rfl (fun s hs sh => ?_)
      have hs1 := hs.1
      refine r_iload dX8_word_72 (by rfl) ?_
      refine r_aload_n dX8_word_74 rfl (by rfl) ?_
      refine r_callVX (i9 := i) (c_length hi) mv_J0_length_8abf5 ml_X8_53 ⟨by decide, by decide⟩ dX8_word_75 hi rfl rfl (Nat.le_of_ble_eq_true rfl) (fun v9 x9 h9 => ?_)
      obtain ⟨rfl, h9⟩ := h9
      refine PW.xeq h9 ?_
      clear h9 x9
      refine r_icmp_gtN (tgt := 128) dX8_word_78 (by decide) (by omega) (by omega) (fun h78 => ?_) (fun h78 => ?_)
      · refine r_aload_n dX8_word_128 rfl (by rfl) ?_
        refine r_iconst (v := nI 1) dX8_word_129 (by decide) ?_
        refine r_aload_n dX8_word_130 rfl (by rfl) ?_
        refine gf_X8_31 rfl dX8_word_131 (by first | assumption | rfl) (by rfl) ?_
        refine PW.topi (show _ = nI (skip g len a) by unfold nuS; rw [xu_k (by decide), xu_s]) ?_
        refine r_callV c_X8_fail mv_X8_fail ml_X8_40 ⟨by decide, by decide⟩ dX8_word_134 (by first | assumption | rfl) rfl rfl rfl (Nat.le_of_ble_eq_true rfl) (fun v9 x9 h9 => ?_)
        obtain ⟨rfl, h9⟩ := h9
        refine PW.xeq h9 ?_
        clear h9 x9
        refine r_pop dX8_word_137 rfl ?_
        refine r_iconst (v := -1) dX8_word_138 (by decide) ?_
        refine r_iret rfl dX8_word_139 ?_
        have hz : wrd g len i a = none := by
          rw [← hs.2.2, show strN.getD i 0 + 1 - s.1 = 0 by omega]
          rfl
        unfold wrdX
        rw [hz]
        exact ⟨rfl, rfl⟩
      · refine r_iload dX8_word_81 (by rfl) ?_
        refine r_aload_n dX8_word_83 rfl (by rfl) ?_
        refine r_callVX (i9 := i) (c_length hi) mv_J0_length_8abf5 ml_X8_53 ⟨by decide, by decide⟩ dX8_word_84 hi rfl rfl (Nat.le_of_ble_eq_true rfl) (fun v9 x9 h9 => ?_)
        obtain ⟨rfl, h9⟩ := h9
        refine PW.xeq h9 ?_
        clear h9 x9
        refine r_icmp_eqN (tgt := 101) dX8_word_87 (by decide) (by omega) (by omega) (fun h87 => ?_) (fun h87 => ?_)
        · refine r_aload_n dX8_word_101 rfl (by rfl) ?_
          refine r_aload_n dX8_word_102 rfl (by rfl) ?_
          refine r_iload_n dX8_word_103 rfl (by rfl) ?_
          refine r_iload dX8_word_104 (by rfl) ?_
          refine r_callV (c_X8_isWord (hT.nu hE) (show nuS x (skip g len a) (smE g len (skip g len a)) 1 6 = nI (skip g len a) by unfold nuS; rw [xu_k (by decide), xu_s]) (smE_ge g len _) hi hs.2.1 (by omega)) mv_X8_isWord ml_X8_61 ⟨by decide, by decide⟩ dX8_word_106 (by first | assumption | rfl) rfl rfl rfl (Nat.le_of_ble_eq_true rfl) (fun v9 x9 h9 => ?_)
          obtain ⟨rfl, h9⟩ := h9
          refine PW.xeq h9 ?_
          clear h9 x9
          refine r_if_eqB (tgt := 114) dX8_word_109 (by decide) (fun h109 => ?_) (fun h109 => ?_)
          · refine r_iincN dX8_word_114 (by rfl) (by decide) ?_
            refine r_iload dX8_word_117 (by rfl) ?_
            refine r_iconst (v := nI 1) dX8_word_119 (by decide) ?_
            refine r_iaddN dX8_word_120 ?_
            refine r_istore_n dX8_word_121 rfl (by decide) ?_
            refine r_iincN dX8_word_122 (by rfl) (by decide) ?_
            refine r_goto (tgt := 72) dX8_word_125 (by decide) ?_
            first
              | exact PW.lc (by rfl) rfl (sh (s.1 + 1, s.2.1 + 1, s.1 + 1) ⟨(show s.1 + 1 ≤ strN.getD i 0 + 1 by omega), Nat.le_refl _, by
                  rw [← hs.2.2, (show strN.getD i 0 + 1 - s.1 = (strN.getD i 0 - s.1) + 1 by omega)]
                  show wsc g i (skip g len a) (smE g len (skip g len a)) (strN.getD i 0 + 1 - (s.1 + 1)) (s.1 + 1) (s.2.1 + 1) (s.1 + 1) = (if _ then _ else _)
                  rw [if_pos (by omega), if_neg (by rw [h109]; decide), show strN.getD i 0 + 1 - (s.1 + 1) = strN.getD i 0 - s.1 by omega]⟩ (show strN.getD i 0 + 1 - (s.1 + 1) < strN.getD i 0 + 1 - s.1 by omega))
              | exact PW.lc (by rfl) rfl (sh (s.1 + 1, s.2.1, s.2.2) ⟨(show s.1 + 1 ≤ strN.getD i 0 + 1 by omega), (show s.2.2 ≤ s.1 + 1 from Nat.le_succ_of_le hs.2.1), by
                  rw [← hs.2.2, (show strN.getD i 0 + 1 - s.1 = (strN.getD i 0 - s.1) + 1 by omega)]
                  show wsc g i (skip g len a) (smE g len (skip g len a)) (strN.getD i 0 + 1 - (s.1 + 1)) (s.1 + 1) s.2.1 s.2.2 = (if _ then _ else _)
                  rw [if_neg (by omega), show strN.getD i 0 + 1 - (s.1 + 1) = strN.getD i 0 - s.1 by omega]⟩ (show strN.getD i 0 + 1 - (s.1 + 1) < strN.getD i 0 + 1 - s.1 by omega))
          · refine r_iload_n dX8_word_112 rfl (by rfl) ?_
            refine r_iret rfl dX8_word_113 ?_
            have hz : wrd g len i a = some s.2.1 := by
              rw [← hs.2.2, (show strN.getD i 0 + 1 - s.1 = (strN.getD i 0 - s.1) + 1 by omega)]
              show (if _ then _ else _) = _
              rw [if_pos (by omega), if_pos h109]
            unfold wrdX
            rw [hz]
            exact ⟨rfl, rfl⟩
        · refine r_aload_n dX8_word_90 rfl (by rfl) ?_
          refine r_iload dX8_word_91 (by rfl) ?_
          have hfk : s.1 < strN.getD i 0 := by omega
          refine r_callVX (i9 := i) (c_charAt hi hfk) mv_J0_charAt_5068e ml_X8_57 ⟨by decide, by decide⟩ dX8_word_93 hi rfl rfl (Nat.le_of_ble_eq_true rfl) (fun v9 x9 h9 => ?_)
          obtain ⟨rfl, h9⟩ := h9
          refine PW.xeq h9 ?_
          clear h9 x9
          refine PW.topi (chN_ok i hi _ hfk).1 ?_
          have c6 := (chN_ok i hi _ hfk).2
          refine r_bipush (v := nI 32) dX8_word_96 (by decide) ?_
          refine r_icmp_neN (tgt := 122) dX8_word_98 (by decide) (by omega) (by omega) (fun h98 => ?_) (fun h98 => ?_)
          · refine r_iincN dX8_word_122 (by rfl) (by decide) ?_
            refine r_goto (tgt := 72) dX8_word_125 (by decide) ?_
            first
              | exact PW.lc (by rfl) rfl (sh (s.1 + 1, s.2.1 + 1, s.1 + 1) ⟨(show s.1 + 1 ≤ strN.getD i 0 + 1 by omega), Nat.le_refl _, by
                  rw [← hs.2.2, (show strN.getD i 0 + 1 - s.1 = (strN.getD i 0 - s.1) + 1 by omega)]
                  show wsc g i (skip g len a) (smE g len (skip g len a)) (strN.getD i 0 + 1 - (s.1 + 1)) (s.1 + 1) (s.2.1 + 1) (s.1 + 1) = (if _ then _ else _)
                  rw [if_pos (by omega), if_neg (by rw [h109]; decide), show strN.getD i 0 + 1 - (s.1 + 1) = strN.getD i 0 - s.1 by omega]⟩ (show strN.getD i 0 + 1 - (s.1 + 1) < strN.getD i 0 + 1 - s.1 by omega))
              | exact PW.lc (by rfl) rfl (sh (s.1 + 1, s.2.1, s.2.2) ⟨(show s.1 + 1 ≤ strN.getD i 0 + 1 by omega), (show s.2.2 ≤ s.1 + 1 from Nat.le_succ_of_le hs.2.1), by
                  rw [← hs.2.2, (show strN.getD i 0 + 1 - s.1 = (strN.getD i 0 - s.1) + 1 by omega)]
                  show wsc g i (skip g len a) (smE g len (skip g len a)) (strN.getD i 0 + 1 - (s.1 + 1)) (s.1 + 1) s.2.1 s.2.2 = (if _ then _ else _)
                  rw [if_neg (by omega), show strN.getD i 0 + 1 - (s.1 + 1) = strN.getD i 0 - s.1 by omega]⟩ (show strN.getD i 0 + 1 - (s.1 + 1) < strN.getD i 0 + 1 - s.1 by omega))
          · refine r_aload_n dX8_word_101 rfl (by rfl) ?_
            refine r_aload_n dX8_word_102 rfl (by rfl) ?_
            refine r_iload_n dX8_word_103 rfl (by rfl) ?_
            refine r_iload dX8_word_104 (by rfl) ?_
            refine r_callV (c_X8_isWord (hT.nu hE) (show nuS x (skip g len a) (smE g len (skip g len a)) 1 6 = nI (skip g len a) by unfold nuS; rw [xu_k (by decide), xu_s]) (smE_ge g len _) hi hs.2.1 (by omega)) mv_X8_isWord ml_X8_61 ⟨by decide, by decide⟩ dX8_word_106 (by first | assumption | rfl) rfl rfl rfl (Nat.le_of_ble_eq_true rfl) (fun v9 x9 h9 => ?_)
            obtain ⟨rfl, h9⟩ := h9
            refine PW.xeq h9 ?_
            clear h9 x9
            refine r_if_eqB (tgt := 114) dX8_word_109 (by decide) (fun h109 => ?_) (fun h109 => ?_)
            · refine r_iincN dX8_word_114 (by rfl) (by decide) ?_
              refine r_iload dX8_word_117 (by rfl) ?_
              refine r_iconst (v := nI 1) dX8_word_119 (by decide) ?_
              refine r_iaddN dX8_word_120 ?_
              refine r_istore_n dX8_word_121 rfl (by decide) ?_
              refine r_iincN dX8_word_122 (by rfl) (by decide) ?_
              refine r_goto (tgt := 72) dX8_word_125 (by decide) ?_
              first
                | exact PW.lc (by rfl) rfl (sh (s.1 + 1, s.2.1 + 1, s.1 + 1) ⟨(show s.1 + 1 ≤ strN.getD i 0 + 1 by omega), Nat.le_refl _, by
                    rw [← hs.2.2, (show strN.getD i 0 + 1 - s.1 = (strN.getD i 0 - s.1) + 1 by omega)]
                    show wsc g i (skip g len a) (smE g len (skip g len a)) (strN.getD i 0 + 1 - (s.1 + 1)) (s.1 + 1) (s.2.1 + 1) (s.1 + 1) = (if _ then _ else _)
                    rw [if_pos (by omega), if_neg (by rw [h109]; decide), show strN.getD i 0 + 1 - (s.1 + 1) = strN.getD i 0 - s.1 by omega]⟩ (show strN.getD i 0 + 1 - (s.1 + 1) < strN.getD i 0 + 1 - s.1 by omega))
                | exact PW.lc (by rfl) rfl (sh (s.1 + 1, s.2.1, s.2.2) ⟨(show s.1 + 1 ≤ strN.getD i 0 + 1 by omega), (show s.2.2 ≤ s.1 + 1 from Nat.le_succ_of_le hs.2.1), by
                    rw [← hs.2.2, (show strN.getD i 0 + 1 - s.1 = (strN.getD i 0 - s.1) + 1 by omega)]
                    show wsc g i (skip g len a) (smE g len (skip g len a)) (strN.getD i 0 + 1 - (s.1 + 1)) (s.1 + 1) s.2.1 s.2.2 = (if _ then _ else _)
                    rw [if_neg (by omega), show strN.getD i 0 + 1 - (s.1 + 1) = strN.getD i 0 - s.1 by omega]⟩ (show strN.getD i 0 + 1 - (s.1 + 1) < strN.getD i 0 + 1 - s.1 by omega))
            · refine r_iload_n dX8_word_112 rfl (by rfl) ?_
              refine r_iret rfl dX8_word_113 ?_
              have hz : wrd g len i a = some s.2.1 := by
                rw [← hs.2.2, (show strN.getD i 0 + 1 - s.1 = (strN.getD i 0 - s.1) + 1 by omega)]
                show (if _ then _ else _) = _
                rw [if_pos (by omega), if_pos h109]
              unfold wrdX
              rw [hz]
              exact ⟨rfl, rfl⟩
    · refine r_aload_n dX8_word_38 rfl (by rfl) ?_
      refine gf_X8_9 rfl dX8_word_39 (by first | assumption | rfl) (by rfl) ?_
      refine r_aload_n dX8_word_42 rfl (by rfl) ?_
      refine gf_X8_22 rfl dX8_word_43 (by first | assumption | rfl) (by rfl) ?_
      refine PW.topi (show _ = nI k from xu_s) ?_
      refine r_ialdN dX8_word_46 (by first | assumption | rfl) (by omega) (by decide) ?_
      refine PW.topi (show _ = nI (g k) by unfold nuS; rw [xu_n (by decide), xu_n (by decide)]; exact (hT.2.2.2.2 k (by omega)).1) ?_
      refine r_bipush (v := nI 122) dX8_word_47 (by decide) ?_
      refine r_icmp_gtN (tgt := 65) dX8_word_49 (by decide) (by omega) (by omega) (fun h49 => ?_) (fun h49 => ?_)
      · have hw : smE g len (skip g len a) = k := by
          rw [← hk.2.2]
          exact smE_e (by intro q; have q2 := small_iff.mp q.2; omega)
        refine PW.xeq (show nuS x (skip g len a) k = nuS x (skip g len a) (smE g len (skip g len a)) by rw [hw]) ?_
        refine r_iconst (v := nI 0) dX8_word_65 (by decide) ?_
        refine r_istore_n dX8_word_66 rfl (by decide) ?_
        refine r_iconst (v := nI 0) dX8_word_67 (by decide) ?_
        refine r_istore_n dX8_word_68 rfl (by decide) ?_
        refine r_iconst (v := nI 0) dX8_word_69 (by decide) ?_
        refine r_istore dX8_word_70 (by decide) ?_
        refine PW.loop (σ := Nat × Nat × Nat) (fun s => strN.getD i 0 + 1 - s.1) (fun s => s.1 ≤ strN.getD i 0 + 1 ∧ s.2.2 ≤ s.1 ∧ wsc g i (skip g len a) (smE g len (skip g len a)) (strN.getD i 0 + 1 - s.1) s.1 s.2.1 s.2.2 = wrd g len i a) (fun s => [(0, .ref 1), (1, .ref (1000 + i)), (2, .int (nI s.2.1)), (3, .int (nI s.2.2)), (4, .int (nI s.1))]) (fun _ => nuS x (skip g len a) (smE g len (skip g len a))) ((0, 0, 0)) (⟨Nat.zero_le _, Nat.le_refl _, rfl⟩) rfl rfl (fun s hs sh => ?_)
        have hs1 := hs.1
        refine r_iload dX8_word_72 (by rfl) ?_
        refine r_aload_n dX8_word_74 rfl (by rfl) ?_
        refine r_callVX (i9 := i) (c_length hi) mv_J0_length_8abf5 ml_X8_53 ⟨by decide, by decide⟩ dX8_word_75 hi rfl rfl (Nat.le_of_ble_eq_true rfl) (fun v9 x9 h9 => ?_)
        obtain ⟨rfl, h9⟩ := h9
        refine PW.xeq h9 ?_
        clear h9 x9
        refine r_icmp_gtN (tgt := 128) dX8_word_78 (by decide) (by omega) (by omega) (fun h78 => ?_) (fun h78 => ?_)
        · refine r_aload_n dX8_word_128 rfl (by rfl) ?_
          refine r_iconst (v := nI 1) dX8_word_129 (by decide) ?_
          refine r_aload_n dX8_word_130 rfl (by rfl) ?_
          refine gf_X8_31 rfl dX8_word_131 (by first | assumption | rfl) (by rfl) ?_
          refine PW.topi (show _ = nI (skip g len a) by unfold nuS; rw [xu_k (by decide), xu_s]) ?_
          refine r_callV c_X8_fail mv_X8_fail ml_X8_40 ⟨by decide, by decide⟩ dX8_word_134 (by first | assumption | rfl) rfl rfl rfl (Nat.le_of_ble_eq_true rfl) (fun v9 x9 h9 => ?_)
          obtain ⟨rfl, h9⟩ := h9
          refine PW.xeq h9 ?_
          clear h9 x9
          refine r_pop dX8_word_137 rfl ?_
          refine r_iconst (v := -1) dX8_word_138 (by decide) ?_
          refine r_iret rfl dX8_word_139 ?_
          have hz : wrd g len i a = none := by
            rw [← hs.2.2, show strN.getD i 0 + 1 - s.1 = 0 by omega]
            rfl
          unfold wrdX
          rw [hz]
          exact ⟨rfl, rfl⟩
        · refine r_iload dX8_word_81 (by rfl) ?_
          refine r_aload_n dX8_word_83 rfl (by rfl) ?_
          refine r_callVX (i9 := i) (c_length hi) mv_J0_length_8abf5 ml_X8_53 ⟨by decide, by decide⟩ dX8_word_84 hi rfl rfl (Nat.le_of_ble_eq_true rfl) (fun v9 x9 h9 => ?_)
          obtain ⟨rfl, h9⟩ := h9
          refine PW.xeq h9 ?_
          clear h9 x9
          refine r_icmp_eqN (tgt := 101) dX8_word_87 (by decide) (by omega) (by omega) (fun h87 => ?_) (fun h87 => ?_)
          · refine r_aload_n dX8_word_101 rfl (by rfl) ?_
            refine r_aload_n dX8_word_102 rfl (by rfl) ?_
            refine r_iload_n dX8_word_103 rfl (by rfl) ?_
            refine r_iload dX8_word_104 (by rfl) ?_
            refine r_callV (c_X8_isWord (hT.nu hE) (show nuS x (skip g len a) (smE g len (skip g len a)) 1 6 = nI (skip g len a) by unfold nuS; rw [xu_k (by decide), xu_s]) (smE_ge g len _) hi hs.2.1 (by omega)) mv_X8_isWord ml_X8_61 ⟨by decide, by decide⟩ dX8_word_106 (by first | assumption | rfl) rfl rfl rfl (Nat.le_of_ble_eq_true rfl) (fun v9 x9 h9 => ?_)
            obtain ⟨rfl, h9⟩ := h9
            refine PW.xeq h9 ?_
            clear h9 x9
            refine r_if_eqB (tgt := 114) dX8_word_109 (by decide) (fun h109 => ?_) (fun h109 => ?_)
            · refine r_iincN dX8_word_114 (by rfl) (by decide) ?_
              refine r_iload dX8_word_117 (by rfl) ?_
              refine r_iconst (v := nI 1) dX8_word_119 (by decide) ?_
              refine r_iaddN dX8_word_120 ?_
              refine r_istore_n dX8_word_121 rfl (by decide) ?_
              refine r_iincN dX8_word_122 (by rfl) (by decide) ?_
              refine r_goto (tgt := 72) dX8_word_125 (by decide) ?_
              first
                | exact PW.lc (by rfl) rfl (sh (s.1 + 1, s.2.1 + 1, s.1 + 1) ⟨(show s.1 + 1 ≤ strN.getD i 0 + 1 by omega), Nat.le_refl _, by
                    rw [← hs.2.2, (show strN.getD i 0 + 1 - s.1 = (strN.getD i 0 - s.1) + 1 by omega)]
                    show wsc g i (skip g len a) (smE g len (skip g len a)) (strN.getD i 0 + 1 - (s.1 + 1)) (s.1 + 1) (s.2.1 + 1) (s.1 + 1) = (if _ then _ else _)
                    rw [if_pos (by omega), if_neg (by rw [h109]; decide), show strN.getD i 0 + 1 - (s.1 + 1) = strN.getD i 0 - s.1 by omega]⟩ (show strN.getD i 0 + 1 - (s.1 + 1) < strN.getD i 0 + 1 - s.1 by omega))
                | exact PW.lc (by rfl) rfl (sh (s.1 + 1, s.2.1, s.2.2) ⟨(show s.1 + 1 ≤ strN.getD i 0 + 1 by omega), (show s.2.2 ≤ s.1 + 1 from Nat.le_succ_of_le hs.2.1), by
                    rw [← hs.2.2, (show strN.getD i 0 + 1 - s.1 = (strN.getD i 0 - s.1) + 1 by omega)]
                    show wsc g i (skip g len a) (smE g len (skip g len a)) (strN.getD i 0 + 1 - (s.1 + 1)) (s.1 + 1) s.2.1 s.2.2 = (if _ then _ else _)
                    rw [if_neg (by omega), show strN.getD i 0 + 1 - (s.1 + 1) = strN.getD i 0 - s.1 by omega]⟩ (show strN.getD i 0 + 1 - (s.1 + 1) < strN.getD i 0 + 1 - s.1 by omega))
            · refine r_iload_n dX8_word_112 rfl (by rfl) ?_
              refine r_iret rfl dX8_word_113 ?_
              have hz : wrd g len i a = some s.2.1 := by
                rw [← hs.2.2, (show strN.getD i 0 + 1 - s.1 = (strN.getD i 0 - s.1) + 1 by omega)]
                show (if _ then _ else _) = _
                rw [if_pos (by omega), if_pos h109]
              unfold wrdX
              rw [hz]
              exact ⟨rfl, rfl⟩
          · refine r_aload_n dX8_word_90 rfl (by rfl) ?_
            refine r_iload dX8_word_91 (by rfl) ?_
            have hfk : s.1 < strN.getD i 0 := by omega
            refine r_callVX (i9 := i) (c_charAt hi hfk) mv_J0_charAt_5068e ml_X8_57 ⟨by decide, by decide⟩ dX8_word_93 hi rfl rfl (Nat.le_of_ble_eq_true rfl) (fun v9 x9 h9 => ?_)
            obtain ⟨rfl, h9⟩ := h9
            refine PW.xeq h9 ?_
            clear h9 x9
            refine PW.topi (chN_ok i hi _ hfk).1 ?_
            have c6 := (chN_ok i hi _ hfk).2
            refine r_bipush (v := nI 32) dX8_word_96 (by decide) ?_
            refine r_icmp_neN (tgt := 122) dX8_word_98 (by decide) (by omega) (by omega) (fun h98 => ?_) (fun h98 => ?_)
            · refine r_iincN dX8_word_122 (by rfl) (by decide) ?_
              refine r_goto (tgt := 72) dX8_word_125 (by decide) ?_
              first
                | exact PW.lc (by rfl) rfl (sh (s.1 + 1, s.2.1 + 1, s.1 + 1) ⟨(show s.1 + 1 ≤ strN.getD i 0 + 1 by omega), Nat.le_refl _, by
                    rw [← hs.2.2, (show strN.getD i 0 + 1 - s.1 = (strN.getD i 0 - s.1) + 1 by omega)]
                    show wsc g i (skip g len a) (smE g len (skip g len a)) (strN.getD i 0 + 1 - (s.1 + 1)) (s.1 + 1) (s.2.1 + 1) (s.1 + 1) = (if _ then _ else _)
                    rw [if_pos (by omega), if_neg (by rw [h109]; decide), show strN.getD i 0 + 1 - (s.1 + 1) = strN.getD i 0 - s.1 by omega]⟩ (show strN.getD i 0 + 1 - (s.1 + 1) < strN.getD i 0 + 1 - s.1 by omega))
                | exact PW.lc (by rfl) rfl (sh (s.1 + 1, s.2.1, s.2.2) ⟨(show s.1 + 1 ≤ strN.getD i 0 + 1 by omega), (show s.2.2 ≤ s.1 + 1 from Nat.le_succ_of_le hs.2.1), by
                    rw [← hs.2.2, (show strN.getD i 0 + 1 - s.1 = (strN.getD i 0 - s.1) + 1 by omega)]
                    show wsc g i (skip g len a) (smE g len (skip g len a)) (strN.getD i 0 + 1 - (s.1 + 1)) (s.1 + 1) s.2.1 s.2.2 = (if _ then _ else _)
                    rw [if_neg (by omega), show strN.getD i 0 + 1 - (s.1 + 1) = strN.getD i 0 - s.1 by omega]⟩ (show strN.getD i 0 + 1 - (s.1 + 1) < strN.getD i 0 + 1 - s.1 by omega))
            · refine r_aload_n dX8_word_101 rfl (by rfl) ?_
              refine r_aload_n dX8_word_102 rfl (by rfl) ?_
              refine r_iload_n dX8_word_103 rfl (by rfl) ?_
              refine r_iload dX8_word_104 (by rfl) ?_
              refine r_callV (c_X8_isWord (hT.nu hE) (show nuS x (skip g len a) (smE g len (skip g len a)) 1 6 = nI (skip g len a) by unfold nuS; rw [xu_k (by decide), xu_s]) (smE_ge g len _) hi hs.2.1 (by omega)) mv_X8_isWord ml_X8_61 ⟨by decide, by decide⟩ dX8_word_106 (by first | assumption | rfl) rfl rfl rfl (Nat.le_of_ble_eq_true rfl) (fun v9 x9 h9 => ?_)
              obtain ⟨rfl, h9⟩ := h9
              refine PW.xeq h9 ?_
              clear h9 x9
              refine r_if_eqB (tgt := 114) dX8_word_109 (by decide) (fun h109 => ?_) (fun h109 => ?_)
              · refine r_iincN dX8_word_114 (by rfl) (by decide) ?_
                refine r_iload dX8_word_117 (by rfl) ?_
                refine r_iconst (v := nI 1) dX8_word_119 (by decide) ?_
                refine r_iaddN dX8_word_120 ?_
                refine r_istore_n dX8_word_121 rfl (by decide) ?_
                refine r_iincN dX8_word_122 (by rfl) (by decide) ?_
                refine r_goto (tgt := 72) dX8_word_125 (by decide) ?_
                first
                  | exact PW.lc (by rfl) rfl (sh (s.1 + 1, s.2.1 + 1, s.1 + 1) ⟨(show s.1 + 1 ≤ strN.getD i 0 + 1 by omega), Nat.le_refl _, by
                      rw [← hs.2.2, (show strN.getD i 0 + 1 - s.1 = (strN.getD i 0 - s.1) + 1 by omega)]
                      show wsc g i (skip g len a) (smE g len (skip g len a)) (strN.getD i 0 + 1 - (s.1 + 1)) (s.1 + 1) (s.2.1 + 1) (s.1 + 1) = (if _ then _ else _)
                      rw [if_pos (by omega), if_neg (by rw [h109]; decide), show strN.getD i 0 + 1 - (s.1 + 1) = strN.getD i 0 - s.1 by omega]⟩ (show strN.getD i 0 + 1 - (s.1 + 1) < strN.getD i 0 + 1 - s.1 by omega))
                  | exact PW.lc (by rfl) rfl (sh (s.1 + 1, s.2.1, s.2.2) ⟨(show s.1 + 1 ≤ strN.getD i 0 + 1 by omega), (show s.2.2 ≤ s.1 + 1 from Nat.le_succ_of_le hs.2.1), by
                      rw [← hs.2.2, (show strN.getD i 0 + 1 - s.1 = (strN.getD i 0 - s.1) + 1 by omega)]
                      show wsc g i (skip g len a) (smE g len (skip g len a)) (strN.getD i 0 + 1 - (s.1 + 1)) (s.1 + 1) s.2.1 s.2.2 = (if _ then _ else _)
                      rw [if_neg (by omega), show strN.getD i 0 + 1 - (s.1 + 1) = strN.getD i 0 - s.1 by omega]⟩ (show strN.getD i 0 + 1 - (s.1 + 1) < strN.getD i 0 + 1 - s.1 by omega))
              · refine r_iload_n dX8_word_112 rfl (by rfl) ?_
                refine r_iret rfl dX8_word_113 ?_
                have hz : wrd g len i a = some s.2.1 := by
                  rw [← hs.2.2, (show strN.getD i 0 + 1 - s.1 = (strN.getD i 0 - s.1) + 1 by omega)]
                  show (if _ then _ else _) = _
                  rw [if_pos (by omega), if_pos h109]
                unfold wrdX
                rw [hz]
                exact ⟨rfl, rfl⟩
      · refine r_aload_n dX8_word_52 rfl (by rfl) ?_
        refine r_dup dX8_word_53 rfl ?_
        refine gf_X8_22 rfl dX8_word_54 (by first | assumption | rfl) (by rfl) ?_
        refine PW.topi (show _ = nI k from xu_s) ?_
        refine r_iconst (v := nI 1) dX8_word_57 (by decide) ?_
        refine r_iaddN dX8_word_58 ?_
        refine pf_X8_22 rfl dX8_word_59 (by first | assumption | rfl) (by rfl) ?_
        refine r_goto (tgt := 13) dX8_word_62 (by decide) ?_
        exact PW.lc (by rfl) (by unfold nuS; rw [xu_xu]) (kh (k + 1) ⟨by omega, by omega, by rw [← smE_s (by omega) (small_iff.mpr ⟨by omega, by omega⟩)]; exact hk.2.2⟩ (by omega))
