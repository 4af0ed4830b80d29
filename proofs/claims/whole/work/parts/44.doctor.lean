/-! THE FACE: the doctor, what was heard, whose plugs by turns, counts -/
def upN (q k n : Nat) : Nat := if n < k then 0 else (16 + (n - k) * (16 - q)) * q ^ k
def blN (k : Nat) : Nat := 16 ^ (k + 1)
theorem blN_lt {k : Nat} (h : k ≤ 4) : 0 < blN k ∧ blN k < 2 ^ 30 := by
  rcases (show k = 0 ∨ k = 1 ∨ k = 2 ∨ k = 3 ∨ k = 4 by omega) with rfl | rfl | rfl | rfl | rfl <;> decide
theorem upN_lt {q k n : Nat} (hq : q ≤ 16) (hk : k ≤ 4) (hn : n ≤ 12) : upN q k n < 2 ^ 30 := by
  have h1 : 16 + (n - k) * (16 - q) ≤ 208 := by
    have : (n - k) * (16 - q) ≤ 12 * 16 := Nat.mul_le_mul (by omega) (by omega)
    omega
  have h2 : q ^ k ≤ 65536 := by
    calc q ^ k ≤ 16 ^ k := Nat.pow_le_pow_left hq k
      _ ≤ 16 ^ 4 := Nat.pow_le_pow_right (by decide) hk
      _ = 65536 := by decide
  unfold upN
  split
  · decide
  · calc _ ≤ 208 * 65536 := Nat.mul_le_mul h1 h2
      _ < 2 ^ 30 := by decide
def oPauses (q k n u : Int32) : Except Nat Int32 := rq (inB q (nI 0) (nI 16)) (rq (inB k (nI 1) (nI 4)) (rq (inB n (nI 0) (nI 12)) (rq (inB u (nI 0) (nI 1)) (.ok (nI 0)))))
def pauV (q k n u : Int32) : Int64 := lN (if u = nI 0 then upN (nN q) (nN k) (nN n) / Nat.gcd (upN (nN q) (nN k) (nN n)) (blN (nN k)) else blN (nN k) / Nat.gcd (upN (nN q) (nN k) (nN n)) (blN (nN k)))
def CPX (x : XS) (r : Except Nat Int32) (a' : AS) (val : Value) : Option Value → XS → Prop := fun v y => (∃ w, r = .ok w) ∧ v = some val ∧ RC y a' ∧ HI x y
def docF (k n q : Nat) : Bool := decide (blN k ≤ upN q k n)
def oDoctor (a : AS) (k n : Int32) : Except Nat Int32 := rq (inB k (nI 1) (nI 4)) (rq (inB n (nI 0) (nI 12)) (.ok (soonF (docF (nN k) (nN n)) 17 0)))
theorem gcd_step {a b : Nat} (hb : b ≠ 0) : Nat.gcd b (a % b) = Nat.gcd a b := by rw [Nat.gcd_comm b (a % b), Nat.gcd_comm a b, Nat.gcd_rec b a]
theorem mod_half {a b : Nat} (hb : b ≠ 0) (h : b ≤ a) : b * (a % b) * 2 ≤ a * b := by
  have h1 : a % b * 2 ≤ a := by
    have e := Nat.div_add_mod a b
    have hl := Nat.mod_lt a (Nat.pos_of_ne_zero hb)
    have hd : 1 ≤ a / b := (Nat.one_le_div_iff (Nat.pos_of_ne_zero hb)).mpr h
    have : b * 1 ≤ b * (a / b) := Nat.mul_le_mul_left b hd
    omega
  calc b * (a % b) * 2 = (a % b * 2) * b := by rw [Nat.mul_comm b (a % b), Nat.mul_assoc, Nat.mul_comm b 2, ← Nat.mul_assoc]
    _ ≤ a * b := Nat.mul_le_mul_right b h1
theorem lN_ne {n : Nat} (h : n ≠ 0) (h2 : n < 2 ^ 31) : ¬ lN n = 0 := fun e => h ((lN_eq h2 (by decide)).mp (show lN n = lN 0 from e))
set_option maxHeartbeats 8000000 in
set_option maxRecDepth 20000 in
theorem c_pausesAbove {q k n : Nat} {x : XS} (hq : q ≤ 16) (hk : k ≤ 4) (hn : n ≤ 12) : MM mX9_pausesAbove 0 0 0 [.int (nI q), .int (nI k), .int (nI n)] x (fun v y => v = some (.long (lN (upN q k n))) ∧ y = x) NoT := by
  refine MM.of (by decide) (Nat.le_of_ble_eq_true rfl) ?_
  refine r_iload_n dX9_pausesAbove_0 rfl (by rfl) ?_
  refine r_iload_n dX9_pausesAbove_1 rfl (by rfl) ?_
  refine r_icmp_geN (tgt := 7) dX9_pausesAbove_2 (by decide) (by omega) (by omega) (fun h2 => ?_) (fun h2 => ?_)
  · refine r_ldc2 kc_X9_365 dX9_pausesAbove_7 ?_
    refine r_iload_n dX9_pausesAbove_10 rfl (by rfl) ?_
    refine r_iload_n dX9_pausesAbove_11 rfl (by rfl) ?_
    refine r_isubN dX9_pausesAbove_12 (by omega) ?_
    refine r_i2l dX9_pausesAbove_13 ?_
    refine PW.top (congrArg Value.long (nI_l (by omega))) ?_
    refine r_bipush (v := nI 16) dX9_pausesAbove_14 (by decide) ?_
    refine r_iload_n dX9_pausesAbove_16 rfl (by rfl) ?_
    refine r_isubN dX9_pausesAbove_17 (by omega) ?_
    refine r_i2l dX9_pausesAbove_18 ?_
    refine PW.top (congrArg Value.long (nI_l (by omega))) ?_
    refine r_lmul dX9_pausesAbove_19 ?_
    refine r_ladd dX9_pausesAbove_20 ?_
    refine PW.top (v' := .long (lN (16 + (n - k) * (16 - q)))) (congrArg Value.long (by rw [lN_mul, show (16 : Int64) = lN 16 from rfl, lN_add])) ?_
    refine r_lstore_n dX9_pausesAbove_21 rfl (by decide) ?_
    refine r_iconst (v := nI 0) dX9_pausesAbove_22 (by decide) ?_
    refine r_istore dX9_pausesAbove_23 (by decide) ?_
    refine PW.loop (σ := Nat) (fun i => k - i) (fun i => i ≤ k) (fun i => [(0, .int (nI q)), (1, .int (nI k)), (3, .long (lN ((16 + (n - k) * (16 - q)) * q ^ i))), (5, .int (nI i))]) (fun _ => x) (0) (Nat.zero_le k) (by rw [Nat.pow_zero, Nat.mul_one]; rfl) rfl (fun i hi ih => ?_)
    refine r_iload dX9_pausesAbove_25 (by rfl) ?_
    refine r_iload_n dX9_pausesAbove_27 rfl (by rfl) ?_
    refine r_icmp_geN (tgt := 42) dX9_pausesAbove_28 (by decide) (by omega) (by omega) (fun h28 => ?_) (fun h28 => ?_)
    · refine r_lload_n dX9_pausesAbove_42 rfl (by rfl) ?_
      refine r_lret rfl dX9_pausesAbove_43 ?_
      refine ⟨?_, rfl⟩
      unfold upN
      rw [if_neg (by omega), show k = i by omega]
    · refine r_lload_n dX9_pausesAbove_31 rfl (by rfl) ?_
      refine r_iload_n dX9_pausesAbove_32 rfl (by rfl) ?_
      refine r_i2l dX9_pausesAbove_33 ?_
      refine PW.top (congrArg Value.long (nI_l (by omega))) ?_
      refine r_lmul dX9_pausesAbove_34 ?_
      refine PW.top (v' := .long (lN ((16 + (n - k) * (16 - q)) * q ^ (i + 1)))) (congrArg Value.long (by rw [lN_mul, Nat.mul_assoc, ← Nat.pow_succ])) ?_
      refine r_lstore_n dX9_pausesAbove_35 rfl (by decide) ?_
      refine r_iincN dX9_pausesAbove_36 (by rfl) (by decide) ?_
      refine r_goto (tgt := 25) dX9_pausesAbove_39 (by decide) ?_
      exact PW.lc (by rfl) rfl (ih (i + 1) (by omega) (by omega))
  · refine r_lconst (v := 0) dX9_pausesAbove_5 (by decide) ?_
    refine r_lret rfl dX9_pausesAbove_6 ?_
    refine ⟨?_, rfl⟩
    unfold upN
    rw [if_pos h2]
    rfl
set_option maxHeartbeats 8000000 in
set_option maxRecDepth 20000 in
theorem c_pausesBelow {k : Nat} {x : XS} (hk : k ≤ 4) : MM mX9_pausesBelow 0 0 0 [.int (nI k)] x (fun v y => v = some (.long (lN (blN k))) ∧ y = x) NoT := by
  refine MM.of (by decide) (Nat.le_of_ble_eq_true rfl) ?_
  refine r_lconst (v := 1) dX9_pausesBelow_0 (by decide) ?_
  refine r_iconst (v := nI 4) dX9_pausesBelow_1 (by decide) ?_
  refine r_iload_n dX9_pausesBelow_2 rfl (by rfl) ?_
  refine r_iconst (v := nI 1) dX9_pausesBelow_3 (by decide) ?_
  refine r_iaddN dX9_pausesBelow_4 ?_
  refine r_imulN dX9_pausesBelow_5 ?_
  refine r_lshl dX9_pausesBelow_6 rfl ?_
  refine r_lret rfl dX9_pausesBelow_7 ?_
  refine ⟨congrArg some (congrArg Value.long ?_), rfl⟩
  rcases (show k = 0 ∨ k = 1 ∨ k = 2 ∨ k = 3 ∨ k = 4 by omega) with rfl | rfl | rfl | rfl | rfl <;> decide +kernel
set_option maxHeartbeats 8000000 in
set_option maxRecDepth 20000 in
theorem c_greatestShared {a b : Nat} {x : XS} (ha : a < 2 ^ 30) (hb : b < 2 ^ 30) : MM mX9_greatestShared 0 0 0 [.long (lN a), .long (lN b)] x (fun v y => v = some (.long (lN (Nat.gcd a b))) ∧ y = x) NoT := by
  refine MM.of (by decide) (Nat.le_of_ble_eq_true rfl) ?_
  refine r_lload_n dX9_greatestShared_0 rfl (by rfl) ?_
  refine r_lstore dX9_greatestShared_1 (by decide) ?_
  refine r_lload_n dX9_greatestShared_3 rfl (by rfl) ?_
  refine r_lstore dX9_greatestShared_4 (by decide) ?_
  refine r_iconst (v := nI 0) dX9_greatestShared_6 (by decide) ?_
  refine r_istore dX9_greatestShared_7 (by decide) ?_
  refine PW.loop (σ := Nat × Nat × Nat) (fun s => 200 - s.1) (fun s => s.1 ≤ 200 ∧ s.2.1 < 2 ^ 30 ∧ s.2.2 < 2 ^ 30 ∧ Nat.gcd s.2.1 s.2.2 = Nat.gcd a b ∧ (s.1 = 0 ∨ s.2.2 < s.2.1) ∧ s.2.1 * s.2.2 * 2 ^ (s.1 - 1) ≤ a * b) (fun s => [(4, .long (lN s.2.1)), (6, .long (lN s.2.2)), (8, .int (nI s.1))]) (fun _ => x) ((0, a, b)) (⟨Nat.zero_le _, ha, hb, rfl, Or.inl rfl, Nat.le_of_eq (Nat.mul_one _)⟩) rfl rfl (fun s hs ih => ?_)
  obtain ⟨hs1, hsa, hsb, hg, hd, hp⟩ := hs
  refine r_iload dX9_greatestShared_9 (by rfl) ?_
  refine r_sipush (v := nI 200) dX9_greatestShared_11 (by decide) ?_
  refine r_icmp_geN (tgt := 45) dX9_greatestShared_14 (by decide) (by omega) (by omega) (fun h14 => ?_) (fun h14 => ?_)
  · refine r_lload dX9_greatestShared_45 (by rfl) ?_
    refine r_lret rfl dX9_greatestShared_47 ?_
    refine ⟨congrArg some (congrArg Value.long (congrArg lN ?_)), rfl⟩
    have hb0 : s.2.2 = 0 := by
      first
        | exact (lN_eq (by omega) (by decide)).mp ((lg_cmp_eq _ _).mp h21)
        | (by_cases e : s.2.2 = 0
           · exact e
           · exfalso
             have e1 : s.1 = 200 := by omega
             have e2 : s.2.1 ≠ 0 := by
               rcases hd with hd | hd
               · omega
               · omega
             rw [e1] at hp
             have e3 : 1 ≤ s.2.1 * s.2.2 := Nat.mul_pos (Nat.pos_of_ne_zero e2) (Nat.pos_of_ne_zero e)
             have e4 : 1 * 2 ^ (200 - 1) ≤ s.2.1 * s.2.2 * 2 ^ (200 - 1) := Nat.mul_le_mul_right _ e3
             have e5 : a * b ≤ 2 ^ 30 * 2 ^ 30 := Nat.mul_le_mul (by omega) (by omega)
             have e6 : (2 : Nat) ^ 30 * 2 ^ 30 < 1 * 2 ^ (200 - 1) := by decide
             omega)
    rw [hb0, Nat.gcd_zero_right] at hg
    exact hg
  · refine r_lload dX9_greatestShared_17 (by rfl) ?_
    refine r_lconst (v := 0) dX9_greatestShared_19 (by decide) ?_
    refine r_lcmp dX9_greatestShared_20 ?_
    refine r_if_eq (tgt := 45) dX9_greatestShared_21 (by decide) (fun h21 => ?_) (fun h21 => ?_)
    · refine r_lload dX9_greatestShared_45 (by rfl) ?_
      refine r_lret rfl dX9_greatestShared_47 ?_
      refine ⟨congrArg some (congrArg Value.long (congrArg lN ?_)), rfl⟩
      have hb0 : s.2.2 = 0 := by
        first
          | exact (lN_eq (by omega) (by decide)).mp ((lg_cmp_eq _ _).mp h21)
          | (by_cases e : s.2.2 = 0
             · exact e
             · exfalso
               have e1 : s.1 = 200 := by omega
               have e2 : s.2.1 ≠ 0 := by
                 rcases hd with hd | hd
                 · omega
                 · omega
               rw [e1] at hp
               have e3 : 1 ≤ s.2.1 * s.2.2 := Nat.mul_pos (Nat.pos_of_ne_zero e2) (Nat.pos_of_ne_zero e)
               have e4 : 1 * 2 ^ (200 - 1) ≤ s.2.1 * s.2.2 * 2 ^ (200 - 1) := Nat.mul_le_mul_right _ e3
               have e5 : a * b ≤ 2 ^ 30 * 2 ^ 30 := Nat.mul_le_mul (by omega) (by omega)
               have e6 : (2 : Nat) ^ 30 * 2 ^ 30 < 1 * 2 ^ (200 - 1) := by decide
               omega)
      rw [hb0, Nat.gcd_zero_right] at hg
      exact hg
    · refine r_lload dX9_greatestShared_24 (by rfl) ?_
      refine r_lload dX9_greatestShared_26 (by rfl) ?_
      have hb0 : s.2.2 ≠ 0 := fun e => h21 ((lg_cmp_eq _ _).mpr (by rw [e]; rfl))
      refine r_lrem dX9_greatestShared_28 (lN_ne hb0 (by omega)) ?_
      refine PW.top (v' := .long (lN (s.2.1 % s.2.2))) (congrArg Value.long (pk_lRem (by omega) (by omega) (by omega))) ?_
      refine r_lstore dX9_greatestShared_29 (by decide) ?_
      refine r_lload dX9_greatestShared_31 (by rfl) ?_
      refine r_lstore dX9_greatestShared_33 (by decide) ?_
      refine r_lload dX9_greatestShared_35 (by rfl) ?_
      refine r_lstore dX9_greatestShared_37 (by decide) ?_
      refine r_iincN dX9_greatestShared_39 (by rfl) (by decide) ?_
      refine r_goto (tgt := 9) dX9_greatestShared_42 (by decide) ?_
      have m1 := Nat.mod_lt s.2.1 (Nat.pos_of_ne_zero hb0)
      exact PW.lc (by rfl) rfl (ih (s.1 + 1, s.2.2, s.2.1 % s.2.2) ⟨(show s.1 + 1 ≤ 200 by omega), (show s.2.2 < 2 ^ 30 by omega), (show s.2.1 % s.2.2 < 2 ^ 30 by omega), (gcd_step hb0).trans hg, (Or.inr m1), (by
        show s.2.2 * (s.2.1 % s.2.2) * 2 ^ (s.1 + 1 - 1) ≤ a * b
        rcases hd with hd | hd
        · rw [hd] at hp ⊢
          rw [show 0 + 1 - 1 = 0 from rfl, Nat.pow_zero, Nat.mul_one]
          rw [show 0 - 1 = 0 from rfl, Nat.pow_zero, Nat.mul_one] at hp
          have h9 : s.2.1 % s.2.2 ≤ s.2.1 := Nat.mod_le _ _
          calc s.2.2 * (s.2.1 % s.2.2) ≤ s.2.2 * s.2.1 := Nat.mul_le_mul_left _ h9
            _ = s.2.1 * s.2.2 := Nat.mul_comm _ _
            _ ≤ a * b := hp
        · have h9 := mod_half hb0 (Nat.le_of_lt hd)
          by_cases h0 : s.1 = 0
          · rw [h0] at hp ⊢
            rw [show 0 + 1 - 1 = 0 from rfl, Nat.pow_zero, Nat.mul_one]
            rw [show 0 - 1 = 0 from rfl, Nat.pow_zero, Nat.mul_one] at hp
            omega
          · have e1 : s.1 + 1 - 1 = (s.1 - 1) + 1 := by omega
            rw [e1, Nat.pow_succ, Nat.mul_comm (2 ^ (s.1 - 1)) 2, ← Nat.mul_assoc]
            exact Nat.le_trans (Nat.mul_le_mul_right _ h9) hp)⟩ (show 200 - (s.1 + 1) < 200 - s.1 by omega))
set_option maxHeartbeats 8000000 in
set_option maxRecDepth 20000 in
theorem f_pauses {a : AS} {x : XS} {q9 k9 n9 u9 : Int32} (hC : RC x a) : MM mX9_pauses 40 1 6 [.ref 0, .int q9, .int k9, .int n9, .int u9] x (CPX x (oPauses q9 k9 n9 u9) (bmp a (oPauses q9 k9 n9 u9)) (.long (pauV q9 k9 n9 u9))) (CT x (oPauses q9 k9 n9 u9) (bmp a (oPauses q9 k9 n9 u9))) := by
  refine MM.of (by decide) (Nat.le_of_ble_eq_true rfl) ?_
  have y0 := lay_0
  refine r_aload_n dX9_pauses_0 rfl (by rfl) ?_
  refine r_iload_n dX9_pauses_1 rfl (by rfl) ?_
  refine r_iconst (v := nI 0) dX9_pauses_2 (by decide) ?_
  refine r_bipush (v := nI 16) dX9_pauses_3 (by decide) ?_
  refine r_callS c_X9_within ms_X9_within ml_X9_144 ⟨by decide, by decide⟩ dX9_pauses_5 rfl (Nat.le_of_ble_eq_true rfl) (fun v9 x9 h9 => ?_)
  obtain ⟨rfl, h9⟩ := h9
  refine PW.xeq h9 ?_
  clear h9 x9
  refine r_if_eqB (tgt := 24) dX9_pauses_8 (by decide) (fun h8 => ?_) (fun h8 => ?_)
  · refine r_iconst (v := nI 0) dX9_pauses_24 (by decide) ?_
    refine PW.topi bI_f.symm ?_
    exact r_callVT c_require_f mv_X9_require ml_X9_148 ⟨by decide, by decide⟩ dX9_pauses_25 lay_0 rfl rfl rfl (Nat.le_of_ble_eq_true rfl) ⟨by decide, by decide⟩ (fun E y h => by obtain ⟨rfl, e⟩ := h; exact ask_bad hC e (by rw [oPauses, rq_f h8]))
  · refine r_iload_n dX9_pauses_11 rfl (by rfl) ?_
    refine r_iconst (v := nI 1) dX9_pauses_12 (by decide) ?_
    refine r_iconst (v := nI 4) dX9_pauses_13 (by decide) ?_
    refine r_callS c_X9_within ms_X9_within ml_X9_144 ⟨by decide, by decide⟩ dX9_pauses_14 rfl (Nat.le_of_ble_eq_true rfl) (fun v9 x9 h9 => ?_)
    obtain ⟨rfl, h9⟩ := h9
    refine PW.xeq h9 ?_
    clear h9 x9
    refine r_if_eqB (tgt := 24) dX9_pauses_17 (by decide) (fun h17 => ?_) (fun h17 => ?_)
    · refine r_iconst (v := nI 0) dX9_pauses_24 (by decide) ?_
      refine PW.topi bI_f.symm ?_
      exact r_callVT c_require_f mv_X9_require ml_X9_148 ⟨by decide, by decide⟩ dX9_pauses_25 lay_0 rfl rfl rfl (Nat.le_of_ble_eq_true rfl) ⟨by decide, by decide⟩ (fun E y h => by obtain ⟨rfl, e⟩ := h; exact ask_bad hC e (by rw [oPauses, rq_t h8, rq_f h17]))
    · refine r_iconst (v := nI 1) dX9_pauses_20 (by decide) ?_
      refine r_goto (tgt := 25) dX9_pauses_21 (by decide) ?_
      refine PW.topi bI_t.symm ?_
      refine r_callV c_require_t mv_X9_require ml_X9_148 ⟨by decide, by decide⟩ dX9_pauses_25 lay_0 rfl rfl rfl (Nat.le_of_ble_eq_true rfl) (fun v9 x9 h9 => ?_)
      obtain ⟨rfl, h9⟩ := h9
      refine PW.xeq h9 ?_
      clear h9 x9
      refine r_aload_n dX9_pauses_28 rfl (by rfl) ?_
      refine r_iload_n dX9_pauses_29 rfl (by rfl) ?_
      refine r_iconst (v := nI 0) dX9_pauses_30 (by decide) ?_
      refine r_bipush (v := nI 12) dX9_pauses_31 (by decide) ?_
      refine r_callS c_X9_within ms_X9_within ml_X9_144 ⟨by decide, by decide⟩ dX9_pauses_33 rfl (Nat.le_of_ble_eq_true rfl) (fun v9 x9 h9 => ?_)
      obtain ⟨rfl, h9⟩ := h9
      refine PW.xeq h9 ?_
      clear h9 x9
      refine r_if_eqB (tgt := 53) dX9_pauses_36 (by decide) (fun h36 => ?_) (fun h36 => ?_)
      · refine r_iconst (v := nI 0) dX9_pauses_53 (by decide) ?_
        refine PW.topi bI_f.symm ?_
        exact r_callVT c_require_f mv_X9_require ml_X9_148 ⟨by decide, by decide⟩ dX9_pauses_54 lay_0 rfl rfl rfl (Nat.le_of_ble_eq_true rfl) ⟨by decide, by decide⟩ (fun E y h => by obtain ⟨rfl, e⟩ := h; exact ask_bad hC e (by rw [oPauses, rq_t h8, rq_t h17, rq_f h36]))
      · refine r_iload dX9_pauses_39 (by rfl) ?_
        refine r_iconst (v := nI 0) dX9_pauses_41 (by decide) ?_
        refine r_iconst (v := nI 1) dX9_pauses_42 (by decide) ?_
        refine r_callS c_X9_within ms_X9_within ml_X9_144 ⟨by decide, by decide⟩ dX9_pauses_43 rfl (Nat.le_of_ble_eq_true rfl) (fun v9 x9 h9 => ?_)
        obtain ⟨rfl, h9⟩ := h9
        refine PW.xeq h9 ?_
        clear h9 x9
        refine r_if_eqB (tgt := 53) dX9_pauses_46 (by decide) (fun h46 => ?_) (fun h46 => ?_)
        · refine r_iconst (v := nI 0) dX9_pauses_53 (by decide) ?_
          refine PW.topi bI_f.symm ?_
          exact r_callVT c_require_f mv_X9_require ml_X9_148 ⟨by decide, by decide⟩ dX9_pauses_54 lay_0 rfl rfl rfl (Nat.le_of_ble_eq_true rfl) ⟨by decide, by decide⟩ (fun E y h => by obtain ⟨rfl, e⟩ := h; exact ask_bad hC e (by rw [oPauses, rq_t h8, rq_t h17, rq_t h36, rq_f h46]))
        · refine r_iconst (v := nI 1) dX9_pauses_49 (by decide) ?_
          refine r_goto (tgt := 54) dX9_pauses_50 (by decide) ?_
          refine PW.topi bI_t.symm ?_
          refine r_callV c_require_t mv_X9_require ml_X9_148 ⟨by decide, by decide⟩ dX9_pauses_54 lay_0 rfl rfl rfl (Nat.le_of_ble_eq_true rfl) (fun v9 x9 h9 => ?_)
          obtain ⟨rfl, h9⟩ := h9
          refine PW.xeq h9 ?_
          clear h9 x9
          obtain ⟨q, _, hq, rfl⟩ := inB_is (lo := 0) (hi := 16) h8 (by decide) (by decide)
          obtain ⟨k, hk1, hk, rfl⟩ := inB_is (lo := 1) (hi := 4) h17 (by decide) (by decide)
          obtain ⟨n, _, hn, rfl⟩ := inB_is (lo := 0) (hi := 12) h36 (by decide) (by decide)
          obtain ⟨u, _, hu, rfl⟩ := inB_is (lo := 0) (hi := 1) h46 (by decide) (by decide)
          have ul := upN_lt hq hk hn
          have bl := blN_lt hk
          have g0 : 0 < Nat.gcd (upN q k n) (blN k) := Nat.gcd_pos_of_pos_right _ bl.1
          have gl : Nat.gcd (upN q k n) (blN k) ≤ blN k := Nat.gcd_le_right _ bl.1
          refine r_iload_n dX9_pauses_57 rfl (by rfl) ?_
          refine r_iload_n dX9_pauses_58 rfl (by rfl) ?_
          refine r_iload_n dX9_pauses_59 rfl (by rfl) ?_
          refine r_callS (c_pausesAbove hq (by omega) hn) ms_X9_pausesAbove ml_X9_307 ⟨by decide, by decide⟩ dX9_pauses_60 rfl (Nat.le_of_ble_eq_true rfl) (fun v9 x9 h9 => ?_)
          obtain ⟨rfl, h9⟩ := h9
          refine PW.xeq h9 ?_
          clear h9 x9
          refine r_lstore dX9_pauses_63 (by decide) ?_
          refine r_iload_n dX9_pauses_65 rfl (by rfl) ?_
          refine r_callS (c_pausesBelow (by omega)) ms_X9_pausesBelow ml_X9_311 ⟨by decide, by decide⟩ dX9_pauses_66 rfl (Nat.le_of_ble_eq_true rfl) (fun v9 x9 h9 => ?_)
          obtain ⟨rfl, h9⟩ := h9
          refine PW.xeq h9 ?_
          clear h9 x9
          refine r_lstore dX9_pauses_69 (by decide) ?_
          refine r_lload dX9_pauses_71 (by rfl) ?_
          refine r_lload dX9_pauses_73 (by rfl) ?_
          refine r_callS (c_greatestShared (by omega) (by omega)) ms_X9_greatestShared ml_X9_315 ⟨by decide, by decide⟩ dX9_pauses_75 rfl (Nat.le_of_ble_eq_true rfl) (fun v9 x9 h9 => ?_)
          obtain ⟨rfl, h9⟩ := h9
          refine PW.xeq h9 ?_
          clear h9 x9
          refine r_lstore dX9_pauses_78 (by decide) ?_
          refine r_lload dX9_pauses_80 (by rfl) ?_
          refine r_lconst (v := 0) dX9_pauses_82 (by decide) ?_
          refine r_lcmp dX9_pauses_83 ?_
          refine r_if_ne (tgt := 89) dX9_pauses_84 (by decide) (fun _ => ?_) (fun h => absurd ((lg_cmp_eq _ _).mp h) (lN_ne (by omega) (by omega)))
          refine r_iload dX9_pauses_89 (by rfl) ?_
          refine r_if_ne (tgt := 102) dX9_pauses_91 (by decide) (fun h91 => ?_) (fun h91 => ?_)
          · refine r_lload dX9_pauses_102 (by rfl) ?_
            refine r_lload dX9_pauses_104 (by rfl) ?_
            refine r_ldiv dX9_pauses_106 (lN_ne (by omega) (by omega)) ?_
            refine PW.top (congrArg Value.long (pk_lDiv (by omega) (by omega) (by omega))) ?_
            refine r_lretW rfl dX9_pauses_107 ?_
            have e9 : oPauses (nI q) (nI k) (nI n) (nI u) = .ok (nI 0) := by rw [oPauses, rq_t h8, rq_t h17, rq_t h36, rq_t h46]
            rw [e9]
            refine ⟨⟨_, rfl⟩, ?_, hC, fun c _ => rfl⟩
            refine congrArg some (congrArg Value.long ?_)
            unfold pauV
            rw [nN_nI (by omega), nN_nI (by omega), nN_nI (by omega)]
            first
              | (rw [if_pos (show nI u = nI 0 from h91)]; done)
              | (rw [if_neg (show ¬ nI u = nI 0 from h91)]; done)
          · refine r_lload dX9_pauses_94 (by rfl) ?_
            refine r_lload dX9_pauses_96 (by rfl) ?_
            refine r_ldiv dX9_pauses_98 (lN_ne (by omega) (by omega)) ?_
            refine PW.top (congrArg Value.long (pk_lDiv (by omega) (by omega) (by omega))) ?_
            refine r_goto (tgt := 107) dX9_pauses_99 (by decide) ?_
            refine r_lretW rfl dX9_pauses_107 ?_
            have e9 : oPauses (nI q) (nI k) (nI n) (nI u) = .ok (nI 0) := by rw [oPauses, rq_t h8, rq_t h17, rq_t h36, rq_t h46]
            rw [e9]
            refine ⟨⟨_, rfl⟩, ?_, hC, fun c _ => rfl⟩
            refine congrArg some (congrArg Value.long ?_)
            unfold pauV
            rw [nN_nI (by omega), nN_nI (by omega), nN_nI (by omega)]
            first
              | (rw [if_pos (show nI u = nI 0 from h91)]; done)
              | (rw [if_neg (show ¬ nI u = nI 0 from h91)]; done)
set_option maxHeartbeats 8000000 in
set_option maxRecDepth 20000 in
theorem f_doctor {a : AS} {x : XS} {k9 n9 : Int32} (hC : RC x a) (hA : AI a) : ASK mX9_doctor [.ref 0, .int k9, .int n9] x a (oDoctor a k9 n9) := by
  refine MM.of (by decide) (Nat.le_of_ble_eq_true rfl) ?_
  have y0 := lay_0
  refine r_aload_n dX9_doctor_0 rfl (by rfl) ?_
  refine r_iload_n dX9_doctor_1 rfl (by rfl) ?_
  refine r_iconst (v := nI 1) dX9_doctor_2 (by decide) ?_
  refine r_iconst (v := nI 4) dX9_doctor_3 (by decide) ?_
  refine r_callS c_X9_within ms_X9_within ml_X9_144 ⟨by decide, by decide⟩ dX9_doctor_4 rfl (Nat.le_of_ble_eq_true rfl) (fun v9 x9 h9 => ?_)
  obtain ⟨rfl, h9⟩ := h9
  refine PW.xeq h9 ?_
  clear h9 x9
  refine r_if_eqB (tgt := 24) dX9_doctor_7 (by decide) (fun h7 => ?_) (fun h7 => ?_)
  · refine r_iconst (v := nI 0) dX9_doctor_24 (by decide) ?_
    refine PW.topi bI_f.symm ?_
    exact r_callVT c_require_f mv_X9_require ml_X9_148 ⟨by decide, by decide⟩ dX9_doctor_25 lay_0 rfl rfl rfl (Nat.le_of_ble_eq_true rfl) ⟨by decide, by decide⟩ (fun E y h => by obtain ⟨rfl, e⟩ := h; exact ask_bad hC e (by rw [oDoctor, rq_f h7]))
  · refine r_iload_n dX9_doctor_10 rfl (by rfl) ?_
    refine r_iconst (v := nI 0) dX9_doctor_11 (by decide) ?_
    refine r_bipush (v := nI 12) dX9_doctor_12 (by decide) ?_
    refine r_callS c_X9_within ms_X9_within ml_X9_144 ⟨by decide, by decide⟩ dX9_doctor_14 rfl (Nat.le_of_ble_eq_true rfl) (fun v9 x9 h9 => ?_)
    obtain ⟨rfl, h9⟩ := h9
    refine PW.xeq h9 ?_
    clear h9 x9
    refine r_if_eqB (tgt := 24) dX9_doctor_17 (by decide) (fun h17 => ?_) (fun h17 => ?_)
    · refine r_iconst (v := nI 0) dX9_doctor_24 (by decide) ?_
      refine PW.topi bI_f.symm ?_
      exact r_callVT c_require_f mv_X9_require ml_X9_148 ⟨by decide, by decide⟩ dX9_doctor_25 lay_0 rfl rfl rfl (Nat.le_of_ble_eq_true rfl) ⟨by decide, by decide⟩ (fun E y h => by obtain ⟨rfl, e⟩ := h; exact ask_bad hC e (by rw [oDoctor, rq_t h7, rq_f h17]))
    · refine r_iconst (v := nI 1) dX9_doctor_20 (by decide) ?_
      refine r_goto (tgt := 25) dX9_doctor_21 (by decide) ?_
      refine PW.topi bI_t.symm ?_
      refine r_callV c_require_t mv_X9_require ml_X9_148 ⟨by decide, by decide⟩ dX9_doctor_25 lay_0 rfl rfl rfl (Nat.le_of_ble_eq_true rfl) (fun v9 x9 h9 => ?_)
      obtain ⟨rfl, h9⟩ := h9
      refine PW.xeq h9 ?_
      clear h9 x9
      obtain ⟨k, hk1, hk, rfl⟩ := inB_is (lo := 1) (hi := 4) h7 (by decide) (by decide)
      obtain ⟨n, _, hn, rfl⟩ := inB_is (lo := 0) (hi := 12) h17 (by decide) (by decide)
      refine r_iconst (v := nI 0) dX9_doctor_28 (by decide) ?_
      refine r_istore_n dX9_doctor_29 rfl (by decide) ?_
      refine PW.loop (σ := Nat) (fun s => 17 - s) (fun s => s ≤ 17 ∧ soonF (docF k n) (17 - s) s = soonF (docF k n) 17 0) (fun s => [(0, .ref 0), (1, .int (nI k)), (2, .int (nI n)), (3, .int (nI s))]) (fun _ => x) (0) (⟨Nat.zero_le _, rfl⟩) rfl rfl (fun s hs ih => ?_)
      obtain ⟨hs1, hR⟩ := hs
      have bl := blN_lt hk
      have ul : s ≤ 16 → upN s k n < 2 ^ 30 := fun h => upN_lt h hk hn
      refine r_iload_n dX9_doctor_30 rfl (by rfl) ?_
      refine r_bipush (v := nI 16) dX9_doctor_31 (by decide) ?_
      refine r_icmp_gtN (tgt := 58) dX9_doctor_33 (by decide) (by omega) (by omega) (fun h33 => ?_) (fun h33 => ?_)
      · refine r_iconst (v := -1) dX9_doctor_58 (by decide) ?_
        refine r_iretW rfl dX9_doctor_59 ?_
        refine ask_ok hC TF.rfl ?_
        rw [oDoctor, rq_t h7, rq_t h17, nN_nI (by omega), nN_nI (by omega), ← hR, show 17 - s = 0 by omega, soonF]
      · refine r_iload_n dX9_doctor_36 rfl (by rfl) ?_
        refine r_iload_n dX9_doctor_37 rfl (by rfl) ?_
        refine r_iload_n dX9_doctor_38 rfl (by rfl) ?_
        refine r_callS (c_pausesAbove (by omega) (by omega) hn) ms_X9_pausesAbove ml_X9_307 ⟨by decide, by decide⟩ dX9_doctor_39 rfl (Nat.le_of_ble_eq_true rfl) (fun v9 x9 h9 => ?_)
        obtain ⟨rfl, h9⟩ := h9
        refine PW.xeq h9 ?_
        clear h9 x9
        refine r_iload_n dX9_doctor_42 rfl (by rfl) ?_
        refine r_callS (c_pausesBelow (by omega)) ms_X9_pausesBelow ml_X9_311 ⟨by decide, by decide⟩ dX9_doctor_43 rfl (Nat.le_of_ble_eq_true rfl) (fun v9 x9 h9 => ?_)
        obtain ⟨rfl, h9⟩ := h9
        refine PW.xeq h9 ?_
        clear h9 x9
        refine r_lcmp dX9_doctor_46 ?_
        refine r_if_lt (tgt := 52) dX9_doctor_47 (by decide) (fun h47 => ?_) (fun h47 => ?_)
        · refine r_iincN dX9_doctor_52 (by rfl) (by decide) ?_
          refine r_goto (tgt := 30) dX9_doctor_55 (by decide) ?_
          exact PW.lc (by rfl) rfl (ih (s + 1) ⟨(show s + 1 ≤ 17 by omega), (by
            rw [← hR, show 17 - s = (17 - (s + 1)) + 1 by omega, soonF, if_neg (by
              have h9 := (lN_lt (by omega) (by omega)).mp ((lg_cmp_lt _ _).mp h47)
              show ¬ decide _ = true
              rw [decide_eq_false (by omega)]
              decide)])⟩ (by omega))
        · refine r_iload_n dX9_doctor_50 rfl (by rfl) ?_
          refine r_iretW rfl dX9_doctor_51 ?_
          refine ask_ok hC TF.rfl ?_
          rw [oDoctor, rq_t h7, rq_t h17, nN_nI (by omega), nN_nI (by omega), ← hR, show 17 - s = (16 - s) + 1 by omega, soonF, if_pos (show docF k n s = true from decide_eq_true ((lN_le (by omega) (by omega)).mp ((lg_cmp_ge _ _).mp (Int32.not_lt.mp h47))))]
theorem toInt_ne {v : Int32} {k : Nat} (hk : k < 2 ^ 31) (h : ¬ v = nI k) : v.toInt ≠ (k : Int) := fun e => h (Int32.toInt_inj.mp (by rw [e, nI_toInt hk]))
set_option maxHeartbeats 8000000 in
set_option maxRecDepth 20000 in
theorem f_status {a : AS} {x : XS} {v : Int32} (hC : RC x a) (hA : AI a) : ASK mX9_status [.ref 0, .int v] x a (oStatus a v) := by
  refine MM.of (by decide) (Nat.le_of_ble_eq_true rfl) ?_
  have y0 := lay_0
  refine r_iload_n dX9_status_0 rfl (by rfl) ?_
  by_cases v0 : v = nI 0
  · subst v0
    refine r_lookup (tgt := 28) (off := 27) dX9_status_1 (by decide +kernel) (by decide +kernel) (by decide) ?_
    refine r_aload_n dX9_status_28 rfl (by rfl) ?_
    refine gf_X9_95 rfl dX9_status_29 (by first | assumption | rfl) (by rfl) ?_
    refine r_iretW rfl dX9_status_32 ?_
    refine ask_ok hC TF.rfl ?_
    unfold oStatus
    first
      | exact congrArg Except.ok hC.2.2.2.2.2.2.2.1.symm
      | exact congrArg Except.ok hC.2.2.2.2.2.2.2.2.symm
      | (rw [if_neg v0, if_neg v1])
  · by_cases v1 : v = nI 1
    case pos =>
      subst v1
      refine r_lookup (tgt := 33) (off := 32) dX9_status_1 (by decide +kernel) (by decide +kernel) (by decide) ?_
      refine r_aload_n dX9_status_33 rfl (by rfl) ?_
      refine gf_X9_98 rfl dX9_status_34 (by first | assumption | rfl) (by rfl) ?_
      refine r_iretW rfl dX9_status_37 ?_
      refine ask_ok hC TF.rfl ?_
      unfold oStatus
      exact congrArg Except.ok hC.2.2.2.2.2.2.2.2.symm
    have t0 := toInt_ne (by decide) v0
    have t1 := toInt_ne (by decide) v1
    refine r_lookup (tgt := 38) (off := 37) dX9_status_1 (by decide +kernel) (by simp [Op.lookupswitch.offset, List.find?]; try omega) (by decide) ?_
    refine r_iconst (v := -1) dX9_status_38 (by decide) ?_
    refine r_iretW rfl dX9_status_39 ?_
    refine ask_ok hC TF.rfl ?_
    unfold oStatus
    first
      | exact congrArg Except.ok hC.2.2.2.2.2.2.2.1.symm
      | exact congrArg Except.ok hC.2.2.2.2.2.2.2.2.symm
      | (rw [if_neg v0, if_neg v1])
set_option maxHeartbeats 8000000 in
set_option maxRecDepth 20000 in
theorem f_count {a : AS} {x : XS} {v : Int32} (hC : RC x a) (hA : AI a) : ASK mX9_count [.ref 0, .int v] x a (oCount a v) := by
  refine MM.of (by decide) (Nat.le_of_ble_eq_true rfl) ?_
  have y0 := lay_0
  have y1 := lay_1
  have y55 := lay_55
  have y73 := lay_73
  by_cases hv : v = nI 0 ∨ v = nI 1 ∨ v = nI 2
  · rcases hv with rfl | rfl | rfl
    · refine r_iload_n dX9_count_0 rfl (by rfl) ?_
      refine r_tableIn (tgt := 28) (off := 27) dX9_count_1 (by decide +kernel) (by decide +kernel) (by decide +kernel) (by decide) ?_
      refine r_aload_n dX9_count_28 rfl (by rfl) ?_
      refine gf_X9_76 rfl dX9_count_29 (by first | assumption | rfl) (by rfl) ?_
      refine gf_X9_140 rfl dX9_count_32 (by first | assumption | rfl) (by rfl) ?_
      refine r_iretW rfl dX9_count_35 ?_
      refine ask_ok hC TF.rfl ?_
      unfold oCount
      first
        | exact congrArg Except.ok hC.2.2.2.2.2.1.1.symm
        | exact congrArg Except.ok hC.2.2.1.1.symm
        | exact congrArg Except.ok hC.2.2.2.2.1.1.symm
        | (rw [if_neg v0, if_neg v1, if_neg v2])
    · refine r_iload_n dX9_count_0 rfl (by rfl) ?_
      refine r_tableIn (tgt := 36) (off := 35) dX9_count_1 (by decide +kernel) (by decide +kernel) (by decide +kernel) (by decide) ?_
      refine r_aload_n dX9_count_36 rfl (by rfl) ?_
      refine gf_X9_10 rfl dX9_count_37 (by first | assumption | rfl) (by rfl) ?_
      refine gf_X9_118 rfl dX9_count_40 (by first | assumption | rfl) (by rfl) ?_
      refine r_iretW rfl dX9_count_43 ?_
      refine ask_ok hC TF.rfl ?_
      unfold oCount
      first
        | exact congrArg Except.ok hC.2.2.2.2.2.1.1.symm
        | exact congrArg Except.ok hC.2.2.1.1.symm
        | exact congrArg Except.ok hC.2.2.2.2.1.1.symm
        | (rw [if_neg v0, if_neg v1, if_neg v2])
    · refine r_iload_n dX9_count_0 rfl (by rfl) ?_
      refine r_tableIn (tgt := 44) (off := 43) dX9_count_1 (by decide +kernel) (by decide +kernel) (by decide +kernel) (by decide) ?_
      refine r_aload_n dX9_count_44 rfl (by rfl) ?_
      refine gf_X9_69 rfl dX9_count_45 (by first | assumption | rfl) (by rfl) ?_
      refine gf_X9_139 rfl dX9_count_48 (by first | assumption | rfl) (by rfl) ?_
      refine r_iretW rfl dX9_count_51 ?_
      refine ask_ok hC TF.rfl ?_
      unfold oCount
      first
        | exact congrArg Except.ok hC.2.2.2.2.2.1.1.symm
        | exact congrArg Except.ok hC.2.2.1.1.symm
        | exact congrArg Except.ok hC.2.2.2.2.1.1.symm
        | (rw [if_neg v0, if_neg v1, if_neg v2])
  · have v0 : ¬ v = nI 0 := fun e => hv (Or.inl e)
    have v1 : ¬ v = nI 1 := fun e => hv (Or.inr (Or.inl e))
    have v2 : ¬ v = nI 2 := fun e => hv (Or.inr (Or.inr e))
    have t0 := toInt_ne (by decide) v0
    have t1 := toInt_ne (by decide) v1
    have t2 := toInt_ne (by decide) v2
    refine r_iload_n dX9_count_0 rfl (by rfl) ?_
    refine r_tableOut (tgt := 52) dX9_count_1 (by omega) (by decide) ?_
    refine r_iconst (v := -1) dX9_count_52 (by decide) ?_
    refine r_iretW rfl dX9_count_53 ?_
    refine ask_ok hC TF.rfl ?_
    unfold oCount
    first
      | exact congrArg Except.ok hC.2.2.2.2.2.1.1.symm
      | exact congrArg Except.ok hC.2.2.1.1.symm
      | exact congrArg Except.ok hC.2.2.2.2.1.1.symm
      | (rw [if_neg v0, if_neg v1, if_neg v2])
