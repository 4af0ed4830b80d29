/-! THE REFERENCE: words -/
theorem or_N {v d : Nat} (hv : v < 2 ^ 25) (hd : d < 32) : (nI v <<< (nI 5 &&& 31)) ||| nI d = nI (v * 32 + d) := by
  rw [pk_shlN (nI 5 &&& 31) 5 (by decide +kernel) (by omega)]
  refine Int32.toBitVec_inj.mp (BitVec.eq_of_toNat_eq ?_)
  rw [Int32.toBitVec_or, BitVec.toNat_or, pk_tn (by omega), pk_tn (by omega), pk_tn (by omega)]
  rw [show v * 2 ^ 5 = 2 ^ 5 * v by omega, ← Nat.two_pow_add_eq_or_of_lt (show d < 2 ^ 5 by omega)]
def hsN (h : Nat → Nat) : Nat → Nat
  | 0 => 0
  | k + 1 => hsN h k * 32 + (h k - 96)
theorem hsN_lt {h : Nat → Nat} : ∀ k, (∀ j, j < k → 97 ≤ h j ∧ h j ≤ 122) → hsN h k < 32 ^ k
  | 0, _ => (by show 0 < 32 ^ 0; decide)
  | k + 1, hh => by
    have ih := hsN_lt k (fun j hj => hh j (by omega))
    have := hh k (by omega)
    show hsN h k * 32 + (h k - 96) < 32 ^ (k + 1)
    rw [Nat.pow_succ]
    omega
theorem hsN_inj {h h2 : Nat → Nat} : ∀ k m, (∀ j, j < k → 97 ≤ h j ∧ h j ≤ 122) → (∀ j, j < m → 97 ≤ h2 j ∧ h2 j ≤ 122) → hsN h k = hsN h2 m → k = m ∧ ∀ j, j < k → h j = h2 j
  | 0, 0, _, _, _ => ⟨rfl, fun _ h => absurd h (Nat.not_lt_zero _)⟩
  | 0, m + 1, _, h2, e => by
    have := h2 m (by omega)
    have e : 0 = hsN _ m * 32 + (_ - 96) := e
    omega
  | k + 1, 0, h1, _, e => by
    have := h1 k (by omega)
    have e : hsN _ k * 32 + (_ - 96) = 0 := e
    omega
  | k + 1, m + 1, h1, h2, e => by
    have q1 := h1 k (by omega)
    have q2 := h2 m (by omega)
    have e : hsN _ k * 32 + (_ - 96) = hsN _ m * 32 + (_ - 96) := e
    obtain ⟨e1, e2⟩ := hsN_inj k m (fun j hj => h1 j (by omega)) (fun j hj => h2 j (by omega)) (by omega)
    subst e1
    refine ⟨rfl, fun j hj => ?_⟩
    by_cases ej : j = k
    · subst ej; omega
    · exact e2 j (by omega)
theorem hsN_c {h h2 : Nat → Nat} : ∀ k, (∀ j, j < k → h j = h2 j) → hsN h k = hsN h2 k
  | 0, _ => rfl
  | k + 1, e => by
    show hsN h k * 32 + (h k - 96) = hsN h2 k * 32 + (h2 k - 96)
    rw [hsN_c k (fun j hj => e j (by omega)), e k (by omega)]
theorem sme_sm (g : Nat → Nat) (len : Nat) : ∀ n a j, a ≤ j → j < sme g len n a → small (g j) = true
  | 0, a, j, h1, h2 => by
    have h2 : j < a := h2
    omega
  | n + 1, a, j, h1, h2 => by
    unfold sme at h2
    split at h2
    · rename_i q
      by_cases e : j = a
      · subst e; exact q.2
      · exact sme_sm g len n (a + 1) j (by omega) h2
    · omega
theorem smE_sm {g : Nat → Nat} {len a j : Nat} (h1 : a ≤ j) (h2 : j < smE g len a) : 97 ≤ g j ∧ g j ≤ 122 := small_iff.mp (sme_sm g len _ a j h1 h2)
/-- the word at a, as a number -/
def wdN (g : Nat → Nat) (len a : Nat) : Nat := if smE g len (skip g len a) - skip g len a ≤ 6 then hsN (fun j => g (skip g len a + j)) (smE g len (skip g len a) - skip g len a) else 0
theorem smE_run {g : Nat → Nat} {len b : Nat} : ∀ k, (∀ j, j < k → b + j < len ∧ small (g (b + j)) = true) → smE g len b = smE g len (b + k)
  | 0, _ => rfl
  | k + 1, h => (smE_run k (fun j hj => h j (by omega))).trans (smE_s (h k (by omega)).1 (h k (by omega)).2)
def isL (i : Nat) : Bool := decide (3 ≤ i) && decide (i < 25)
set_option maxRecDepth 100000 in
theorem str_sm : ∀ i, i < 25 → 4 ≤ i → strN.getD i 0 ≤ 6 ∧ 1 ≤ strN.getD i 0 ∧ ∀ j, j < strN.getD i 0 → 97 ≤ chN i j ∧ chN i j ≤ 122 := by decide +kernel
def ofW (i : Nat) : Nat := hsN (chN i) (strN.getD i 0)
/-- the reference's word is the class's -/
theorem wd_is {g : Nat → Nat} {len a s i f t : Nat} (hi : i < 25) (hi4 : 4 ≤ i) (ht : t - f = strN.getD i 0) (hc : ∀ k, k < strN.getD i 0 → chN s (f + k) = chN i k) : (wdN g len a = ofW i) ↔ isW g s (skip g len a) (smE g len (skip g len a)) f t = true := by
  obtain ⟨h6, h1, hs⟩ := str_sm i hi hi4
  unfold wdN ofW isW
  rw [Bool.and_eq_true, decide_eq_true_eq, decide_eq_true_eq, ht]
  have hz : hsN (chN i) (strN.getD i 0) ≠ 0 := by
    obtain ⟨m, hm⟩ : ∃ m, strN.getD i 0 = m + 1 := ⟨strN.getD i 0 - 1, by omega⟩
    rw [hm]
    have := hs m (by omega)
    show hsN _ m * 32 + (_ - 96) ≠ 0
    omega
  have hge := smE_ge g len (skip g len a)
  constructor
  · intro e
    split at e
    · obtain ⟨e1, e2⟩ := hsN_inj _ _ (fun j hj => smE_sm (len := len) (a := skip g len a) (show skip g len a ≤ skip g len a + j by omega) (show skip g len a + j < smE g len (skip g len a) by omega)) hs e
      exact ⟨e1.symm, fun k hk => (hc k hk).trans (e2 k (by omega)).symm⟩
    · exact absurd e.symm hz
  · rintro ⟨e1, e2⟩
    rw [if_pos (by omega), ← e1]
    exact hsN_c _ (fun j hj => ((hc j hj).symm.trans (e2 j hj)).symm)
set_option maxHeartbeats 8000000 in
set_option maxRecDepth 20000 in
theorem n_of {i : Nat} {x : XS} (hi : i < 25) (hi4 : 4 ≤ i) : MM mX10_of 4 0 0 [.ref (1000 + i)] x (fun v y => v = some (.int (nI (ofW i))) ∧ y = x) NoT := by
  refine MM.of (by decide) (Nat.le_of_ble_eq_true rfl) ?_
  obtain ⟨h6, h1, hs⟩ := str_sm i hi hi4
  refine r_iconst (v := nI 0) dX10_of_0 (by decide) ?_
  refine r_istore_n dX10_of_1 rfl (by decide) ?_
  refine r_iconst (v := nI 0) dX10_of_2 (by decide) ?_
  refine r_istore_n dX10_of_3 rfl (by decide) ?_
  refine PW.loop (σ := Nat) (fun k => strN.getD i 0 - k) (fun k => k ≤ strN.getD i 0) (fun k => [(0, .ref (1000 + i)), (1, .int (nI (hsN (chN i) k))), (2, .int (nI k))]) (fun _ => x) (0) (Nat.zero_le _) rfl rfl (fun k hk kh => ?_)
  refine r_iload_n dX10_of_4 rfl (by rfl) ?_
  refine r_aload_n dX10_of_5 rfl (by rfl) ?_
  refine r_callVX (i9 := i) (c_length hi) mv_J0_length_8abf5 ml_X10_121 ⟨by decide, by decide⟩ dX10_of_6 hi rfl rfl (Nat.le_of_ble_eq_true rfl) (fun v9 x9 h9 => ?_)
  obtain ⟨rfl, h9⟩ := h9
  refine PW.xeq h9 ?_
  clear h9 x9
  refine r_icmp_geN (tgt := 31) dX10_of_9 (by decide) (by omega) (by omega) (fun h9 => ?_) (fun h9 => ?_)
  · refine r_iload_n dX10_of_31 rfl (by rfl) ?_
    refine r_iret rfl dX10_of_32 ?_
    exact ⟨by rw [show k = strN.getD i 0 by omega]; rfl, rfl⟩
  · refine r_iload_n dX10_of_12 rfl (by rfl) ?_
    refine r_iconst (v := nI 5) dX10_of_13 (by decide) ?_
    refine r_ishl dX10_of_14 ?_
    refine r_aload_n dX10_of_15 rfl (by rfl) ?_
    refine r_iload_n dX10_of_16 rfl (by rfl) ?_
    have hfk : k < strN.getD i 0 := by omega
    refine r_callVX (i9 := i) (c_charAt hi hfk) mv_J0_charAt_5068e ml_X10_126 ⟨by decide, by decide⟩ dX10_of_17 hi rfl rfl (Nat.le_of_ble_eq_true rfl) (fun v9 x9 h9 => ?_)
    obtain ⟨rfl, h9⟩ := h9
    refine PW.xeq h9 ?_
    clear h9 x9
    refine PW.topi (chN_ok i hi k hfk).1 ?_
    have hc9 := hs k hfk
    refine r_bipush (v := nI 96) dX10_of_20 (by decide) ?_
    refine r_isubN dX10_of_22 (by omega) ?_
    refine r_ior dX10_of_23 ?_
    have hl9 := hsN_lt k (fun j hj => hs j (by omega))
    have hp9 : 32 ^ k ≤ 32 ^ 5 := Nat.pow_le_pow_right (by decide) (by omega)
    refine PW.topi (show _ = nI (hsN (chN i) (k + 1)) from or_N (by omega) (by omega)) ?_
    refine r_istore_n dX10_of_24 rfl (by decide) ?_
    refine r_iincN dX10_of_25 (by rfl) (by decide) ?_
    refine r_goto (tgt := 4) dX10_of_28 (by decide) ?_
    exact PW.lc (by rfl) rfl (kh (k + 1) (by omega) (by omega))
set_option maxHeartbeats 8000000 in
set_option maxRecDepth 20000 in
theorem n_word {g : Nat → Nat} {len a : Nat} {x : XS} (hS : RPs x g len a) : MM mX10_word 1 0 0 [.ref 137] x (fun v y => v = some (.int (nI (wdN g len a))) ∧ y = gdX x (skip g len a)) NoT := by
  refine MM.of (by decide) (Nat.le_of_ble_eq_true rfl) ?_
  have y137 := lay_137
  have y139 := lay_139
  obtain ⟨_, hl, ha, hal, hg⟩ := id hS
  have hk8 := skip_le (g := g) hS.2.2.2.1
  refine r_aload_n dX10_word_0 rfl (by rfl) ?_
  refine r_callV (n_here hS) mv_X10_here ml_X10_113 ⟨by decide, by decide⟩ dX10_word_1 (by first | assumption | rfl) rfl rfl rfl (Nat.le_of_ble_eq_true rfl) (fun v9 x9 h9 => ?_)
  obtain ⟨rfl, h9⟩ := h9
  refine PW.xeq h9 ?_
  clear h9 x9
  refine r_pop dX10_word_4 rfl ?_
  refine r_iconst (v := nI 0) dX10_word_5 (by decide) ?_
  refine r_istore_n dX10_word_6 rfl (by decide) ?_
  refine r_iconst (v := nI 0) dX10_word_7 (by decide) ?_
  refine r_istore_n dX10_word_8 rfl (by decide) ?_
  refine r_aload_n dX10_word_9 rfl (by rfl) ?_
  refine gf_X10_107 rfl dX10_word_10 (by first | assumption | rfl) (by rfl) ?_
  refine PW.topi (show _ = nI (skip g len a) from xu_s) ?_
  refine r_istore_n dX10_word_13 rfl (by decide) ?_
  refine PW.loop (σ := Nat) (fun k => len - ((skip g len a) + k)) (fun k => (skip g len a) + k ≤ len ∧ ∀ j, j < k → (skip g len a) + j < len ∧ small (g ((skip g len a) + j)) = true) (fun k => [(0, .ref 137), (1, .int (nI (if k ≤ 6 then hsN (fun j => g ((skip g len a) + j)) k else 0))), (2, .int (nI k)), (3, .int (nI ((skip g len a) + k)))]) (fun _ => gdX x (skip g len a)) (0) (⟨hk8, fun j hj => absurd hj (Nat.not_lt_zero _)⟩) rfl rfl (fun k hk kh => ?_)
  obtain ⟨hk1, hr⟩ := hk
  refine r_iload_n dX10_word_14 rfl (by rfl) ?_
  refine r_aload_n dX10_word_15 rfl (by rfl) ?_
  refine gf_X10_110 rfl dX10_word_16 (by first | assumption | rfl) (by rfl) ?_
  refine PW.topi (show _ = nI len from hS.1) ?_
  refine r_icmp_geN (tgt := 67) dX10_word_19 (by decide) (by omega) (by omega) (fun h19 => ?_) (fun h19 => ?_)
  · refine r_iload_n dX10_word_67 rfl (by rfl) ?_
    refine r_bipush (v := nI 6) dX10_word_68 (by decide) ?_
    refine r_icmp_leN (tgt := 77) dX10_word_70 (by decide) (by omega) (by omega) (fun h70 => ?_) (fun h70 => ?_)
    · refine r_iload_n dX10_word_77 rfl (by rfl) ?_
      refine r_iret rfl dX10_word_78 ?_
      have e9 : smE g len (skip g len a) = (skip g len a) + k := (smE_run k hr).trans (smE_e (by first | omega | (intro q; rw [h31] at q; exact absurd q.2 (by decide))))
      refine ⟨?_, rfl⟩
      unfold wdN
      rw [e9, show (skip g len a) + k - (skip g len a) = k by omega]
      all_goals first
        | (rw [if_neg (by omega)]; done)
        | rfl
    · refine r_iconst (v := nI 0) dX10_word_73 (by decide) ?_
      refine r_goto (tgt := 78) dX10_word_74 (by decide) ?_
      refine r_iret rfl dX10_word_78 ?_
      have e9 : smE g len (skip g len a) = (skip g len a) + k := (smE_run k hr).trans (smE_e (by first | omega | (intro q; rw [h31] at q; exact absurd q.2 (by decide))))
      refine ⟨?_, rfl⟩
      unfold wdN
      rw [e9, show (skip g len a) + k - (skip g len a) = k by omega]
      all_goals first
        | (rw [if_neg (by omega)]; done)
        | rfl
  · refine r_aload_n dX10_word_22 rfl (by rfl) ?_
    refine gf_X10_20 rfl dX10_word_23 (by first | assumption | rfl) (by rfl) ?_
    refine r_iload_n dX10_word_26 rfl (by rfl) ?_
    refine r_ialdN dX10_word_27 (by first | assumption | rfl) (by omega) (by decide) ?_
    refine PW.topi (show _ = nI (g ((skip g len a) + k)) from (hg ((skip g len a) + k) (by omega)).1) ?_
    have hg9 := (hg ((skip g len a) + k) (by omega)).2
    refine r_callS (n_isSmall hg9) ms_X10_isSmall ml_X10_117 ⟨by decide, by decide⟩ dX10_word_28 rfl (Nat.le_of_ble_eq_true rfl) (fun v9 x9 h9 => ?_)
    obtain ⟨rfl, h9⟩ := h9
    refine PW.xeq h9 ?_
    clear h9 x9
    refine r_if_eqB (tgt := 67) dX10_word_31 (by decide) (fun h31 => ?_) (fun h31 => ?_)
    · refine r_iload_n dX10_word_67 rfl (by rfl) ?_
      refine r_bipush (v := nI 6) dX10_word_68 (by decide) ?_
      refine r_icmp_leN (tgt := 77) dX10_word_70 (by decide) (by omega) (by omega) (fun h70 => ?_) (fun h70 => ?_)
      · refine r_iload_n dX10_word_77 rfl (by rfl) ?_
        refine r_iret rfl dX10_word_78 ?_
        have e9 : smE g len (skip g len a) = (skip g len a) + k := (smE_run k hr).trans (smE_e (by first | omega | (intro q; rw [h31] at q; exact absurd q.2 (by decide))))
        refine ⟨?_, rfl⟩
        unfold wdN
        rw [e9, show (skip g len a) + k - (skip g len a) = k by omega]
        all_goals first
          | (rw [if_neg (by omega)]; done)
          | rfl
      · refine r_iconst (v := nI 0) dX10_word_73 (by decide) ?_
        refine r_goto (tgt := 78) dX10_word_74 (by decide) ?_
        refine r_iret rfl dX10_word_78 ?_
        have e9 : smE g len (skip g len a) = (skip g len a) + k := (smE_run k hr).trans (smE_e (by first | omega | (intro q; rw [h31] at q; exact absurd q.2 (by decide))))
        refine ⟨?_, rfl⟩
        unfold wdN
        rw [e9, show (skip g len a) + k - (skip g len a) = k by omega]
        all_goals first
          | (rw [if_neg (by omega)]; done)
          | rfl
    · refine r_iload_n dX10_word_34 rfl (by rfl) ?_
      refine r_bipush (v := nI 6) dX10_word_35 (by decide) ?_
      refine r_icmp_geN (tgt := 56) dX10_word_37 (by decide) (by omega) (by omega) (fun h37 => ?_) (fun h37 => ?_)
      · refine r_iconst (v := nI 0) dX10_word_56 (by decide) ?_
        refine r_istore_n dX10_word_57 rfl (by decide) ?_
        refine r_iincN dX10_word_58 (by rfl) (by decide) ?_
        refine r_iincN dX10_word_61 (by rfl) (by decide) ?_
        refine r_goto (tgt := 14) dX10_word_64 (by decide) ?_
        have hr2 : ∀ j, j < k + 1 → (skip g len a) + j < len ∧ small (g ((skip g len a) + j)) = true := fun j hj => by
          by_cases e : j = k
          · subst e; exact ⟨by omega, h31⟩
          · exact hr j (by omega)
        first
          | (exact PW.lc (by (try dsimp only); rw [if_pos (show k + 1 ≤ 6 by omega)]; rfl) rfl (kh (k + 1) ⟨by omega, hr2⟩ (by omega)))
          | (exact PW.lc (by (try dsimp only); rw [if_neg (show ¬ k + 1 ≤ 6 by omega)]; rfl) rfl (kh (k + 1) ⟨by omega, hr2⟩ (by omega)))
      · refine r_iload_n dX10_word_40 rfl (by rfl) ?_
        refine r_iconst (v := nI 5) dX10_word_41 (by decide) ?_
        refine r_ishl dX10_word_42 ?_
        refine r_aload_n dX10_word_43 rfl (by rfl) ?_
        refine gf_X10_20 rfl dX10_word_44 (by first | assumption | rfl) (by rfl) ?_
        refine r_iload_n dX10_word_47 rfl (by rfl) ?_
        refine r_ialdN dX10_word_48 (by first | assumption | rfl) (by omega) (by decide) ?_
        refine PW.topi (show _ = nI (g ((skip g len a) + k)) from (hg ((skip g len a) + k) (by omega)).1) ?_
        have hg9 := (hg ((skip g len a) + k) (by omega)).2
        refine r_bipush (v := nI 96) dX10_word_49 (by decide) ?_
        have hd9 := small_iff.mp h31
        refine r_isubN dX10_word_51 (by omega) ?_
        refine r_ior dX10_word_52 ?_
        have hl9 := hsN_lt k (h := fun j => g ((skip g len a) + j)) (fun j hj => small_iff.mp (hr j hj).2)
        have hp9 : 32 ^ k ≤ 32 ^ 5 := Nat.pow_le_pow_right (by decide) (by omega)
        have hd9 := small_iff.mp h31
        refine PW.topi (show _ = nI (hsN (fun j => g ((skip g len a) + j)) (k + 1)) from (by rw [if_pos (show k ≤ 6 by omega)]; exact or_N (by omega) (by omega))) ?_
        refine r_goto (tgt := 57) dX10_word_53 (by decide) ?_
        refine r_istore_n dX10_word_57 rfl (by decide) ?_
        refine r_iincN dX10_word_58 (by rfl) (by decide) ?_
        refine r_iincN dX10_word_61 (by rfl) (by decide) ?_
        refine r_goto (tgt := 14) dX10_word_64 (by decide) ?_
        have hr2 : ∀ j, j < k + 1 → (skip g len a) + j < len ∧ small (g ((skip g len a) + j)) = true := fun j hj => by
          by_cases e : j = k
          · subst e; exact ⟨by omega, h31⟩
          · exact hr j (by omega)
        first
          | (exact PW.lc (by (try dsimp only); rw [if_pos (show k + 1 ≤ 6 by omega)]; rfl) rfl (kh (k + 1) ⟨by omega, hr2⟩ (by omega)))
          | (exact PW.lc (by (try dsimp only); rw [if_neg (show ¬ k + 1 ≤ 6 by omega)]; rfl) rfl (kh (k + 1) ⟨by omega, hr2⟩ (by omega)))
