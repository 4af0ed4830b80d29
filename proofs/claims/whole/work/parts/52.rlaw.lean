/-! THE REFERENCE: laws -/
def kdN (c : Nat) : Nat := if c < 1000 then 0 else if c < 2000 then 1 else c - 1998
def ofN (c : Nat) : Nat := if c < 1000 then c else if c < 2000 then c - 1000 else 0
def RLo (x : XS) (w : Nat) (l : List Nat) : Prop := LW l ∧ ((x 148 w = nI 0 ∧ l = (if w = 0 then loudL else fallsL)) ∨ (x 148 w = nI l.length ∧ ∀ i q, l[i]? = some q → x 146 (150 * w + i) = nI (kdN q) ∧ x 147 (150 * w + i) = nI (ofN q)))
def RRe (x : XS) (E : NE) : Prop := x 137 18 = nI (eN E) ∧ eN E ≤ 5 ∧ (∀ k, k < 8 → ∀ p, p < eN E → x 142 (8 * p + k) = eH E k p) ∧ (∀ m, m < 60 → x 143 m = eC E m) ∧ x 137 20 = eO E ∧ RLo x 0 (eL E) ∧ RLo x 1 (eF E)
theorem RLo.fr {x y : XS} {w : Nat} {l : List Nat} (h : RLo x w l) (e1 : y 146 = x 146) (e2 : y 147 = x 147) (e3 : y 148 = x 148) : RLo y w l := by
  unfold RLo
  rw [e1, e2, e3]
  exact h
theorem RRe.fr {x y : XS} {E : NE} (h : RRe x E) (e : ∀ c, c = 142 ∨ c = 143 ∨ c = 146 ∨ c = 147 ∨ c = 148 → y c = x c) (e18 : y 137 18 = x 137 18) (e20 : y 137 20 = x 137 20) : RRe y E := by
  obtain ⟨h1, h2, h3, h4, h5, h6, h7⟩ := h
  refine ⟨e18.trans h1, h2, fun k hk p hp => ?_, fun m hm => ?_, e20.trans h5, h6.fr (e 146 (by omega)) (e 147 (by omega)) (e 148 (by omega)), h7.fr (e 146 (by omega)) (e 147 (by omega)) (e 148 (by omega))⟩
  · rw [e 142 (by omega)]; exact h3 k hk p hp
  · rw [e 143 (by omega)]; exact h4 m hm
theorem j2 (a b : Int32) : joinC (nI (1998 + 2)) a b = a + b := rfl
theorem j3 (a b : Int32) : joinC (nI (1998 + 3)) a b = a - b := rfl
theorem j4 (a b : Int32) : joinC (nI (1998 + 4)) a b = a * b := rfl
theorem j5 (a b : Int32) : joinC (nI (1998 + 5)) a b = if b = 0 then 0 else a / b := rfl
theorem j6 (a b : Int32) : joinC (nI (1998 + 6)) a b = if a < b then a else b := rfl
theorem j7 (a b : Int32) : joinC (nI (1998 + 7)) a b = if b < a then a else b := rfl
set_option maxHeartbeats 8000000 in
set_option maxRecDepth 20000 in
theorem c_both {k : Nat} {a b : Int32} {x : XS} (hk : 2 ≤ k ∧ k ≤ 7) : MM mX10_both 0 0 0 [.int (nI k), .int a, .int b] x (fun v y => v = some (.int (joinC (nI (1998 + k)) a b)) ∧ y = x) NoT := by
  refine MM.of (by decide) (Nat.le_of_ble_eq_true rfl) ?_
  refine r_iload_n dX10_both_0 rfl (by rfl) ?_
  refine r_iconst (v := nI 2) dX10_both_1 (by decide) ?_
  refine r_icmp_neN (tgt := 9) dX10_both_2 (by decide) (by omega) (by omega) (fun h2 => ?_) (fun h2 => ?_)
  · refine r_iload_n dX10_both_9 rfl (by rfl) ?_
    refine r_iconst (v := nI 3) dX10_both_10 (by decide) ?_
    refine r_icmp_neN (tgt := 18) dX10_both_11 (by decide) (by omega) (by omega) (fun h11 => ?_) (fun h11 => ?_)
    · refine r_iload_n dX10_both_18 rfl (by rfl) ?_
      refine r_iconst (v := nI 4) dX10_both_19 (by decide) ?_
      refine r_icmp_neN (tgt := 27) dX10_both_20 (by decide) (by omega) (by omega) (fun h20 => ?_) (fun h20 => ?_)
      · refine r_iload_n dX10_both_27 rfl (by rfl) ?_
        refine r_iconst (v := nI 5) dX10_both_28 (by decide) ?_
        refine r_icmp_neN (tgt := 44) dX10_both_29 (by decide) (by omega) (by omega) (fun h29 => ?_) (fun h29 => ?_)
        · refine r_iload_n dX10_both_44 rfl (by rfl) ?_
          refine r_iload_n dX10_both_45 rfl (by rfl) ?_
          refine r_icmp_ge (tgt := 53) dX10_both_46 (by decide) (fun h46 => ?_) (fun h46 => ?_)
          · refine r_iconst (v := nI 0) dX10_both_53 (by decide) ?_
            refine r_iload_n dX10_both_54 rfl (by rfl) ?_
            refine r_bipush (v := nI 6) dX10_both_55 (by decide) ?_
            refine r_icmp_neN (tgt := 64) dX10_both_57 (by decide) (by omega) (by omega) (fun h57 => ?_) (fun h57 => ?_)
            · refine r_iconst (v := nI 0) dX10_both_64 (by decide) ?_
              refine r_icmp_neN (tgt := 72) dX10_both_65 (by decide) (by omega) (by omega) (fun h65 => ?_) (fun h65 => ?_)
              · refine r_iload_n dX10_both_72 rfl (by rfl) ?_
                refine r_iret rfl dX10_both_73 ?_
                refine ⟨congrArg some (congrArg Value.int ?_), rfl⟩
                first
                  | (exfalso; omega)
                  | (subst h2; rfl)
                  | (subst h11; rfl)
                  | (subst h20; rfl)
                  | (subst h29; rw [j5, if_pos h33]; rfl)
                  | (subst h29; rw [j5, if_neg h33])
                  | (subst h57; rw [j6, if_neg (Int32.not_lt.mpr h46)]; done)
                  | (subst h57; rw [j6, if_pos (Int32.not_le.mp h46)]; done)
                  | (rw [show k = 7 by omega, j7]
                     by_cases e : b < a
                     · rw [if_pos e]
                     · rw [if_neg e]
                       exact Int32.le_antisymm (by first | exact Int32.not_lt.mp e | exact h46) (by first | exact h46 | exact Int32.not_lt.mp e))
                  | (rw [show k = 7 by omega, j7, if_neg (fun e => h46 (Int32.le_of_lt e))])
              · refine r_iload_n dX10_both_68 rfl (by rfl) ?_
                refine r_goto (tgt := 73) dX10_both_69 (by decide) ?_
                refine r_iret rfl dX10_both_73 ?_
                refine ⟨congrArg some (congrArg Value.int ?_), rfl⟩
                first
                  | (exfalso; omega)
                  | (subst h2; rfl)
                  | (subst h11; rfl)
                  | (subst h20; rfl)
                  | (subst h29; rw [j5, if_pos h33]; rfl)
                  | (subst h29; rw [j5, if_neg h33])
                  | (subst h57; rw [j6, if_neg (Int32.not_lt.mpr h46)]; done)
                  | (subst h57; rw [j6, if_pos (Int32.not_le.mp h46)]; done)
                  | (rw [show k = 7 by omega, j7]
                     by_cases e : b < a
                     · rw [if_pos e]
                     · rw [if_neg e]
                       exact Int32.le_antisymm (by first | exact Int32.not_lt.mp e | exact h46) (by first | exact h46 | exact Int32.not_lt.mp e))
                  | (rw [show k = 7 by omega, j7, if_neg (fun e => h46 (Int32.le_of_lt e))])
            · refine r_iconst (v := nI 1) dX10_both_60 (by decide) ?_
              refine r_goto (tgt := 65) dX10_both_61 (by decide) ?_
              refine r_icmp_neN (tgt := 72) dX10_both_65 (by decide) (by omega) (by omega) (fun h65 => ?_) (fun h65 => ?_)
              · refine r_iload_n dX10_both_72 rfl (by rfl) ?_
                refine r_iret rfl dX10_both_73 ?_
                refine ⟨congrArg some (congrArg Value.int ?_), rfl⟩
                first
                  | (exfalso; omega)
                  | (subst h2; rfl)
                  | (subst h11; rfl)
                  | (subst h20; rfl)
                  | (subst h29; rw [j5, if_pos h33]; rfl)
                  | (subst h29; rw [j5, if_neg h33])
                  | (subst h57; rw [j6, if_neg (Int32.not_lt.mpr h46)]; done)
                  | (subst h57; rw [j6, if_pos (Int32.not_le.mp h46)]; done)
                  | (rw [show k = 7 by omega, j7]
                     by_cases e : b < a
                     · rw [if_pos e]
                     · rw [if_neg e]
                       exact Int32.le_antisymm (by first | exact Int32.not_lt.mp e | exact h46) (by first | exact h46 | exact Int32.not_lt.mp e))
                  | (rw [show k = 7 by omega, j7, if_neg (fun e => h46 (Int32.le_of_lt e))])
              · refine r_iload_n dX10_both_68 rfl (by rfl) ?_
                refine r_goto (tgt := 73) dX10_both_69 (by decide) ?_
                refine r_iret rfl dX10_both_73 ?_
                refine ⟨congrArg some (congrArg Value.int ?_), rfl⟩
                first
                  | (exfalso; omega)
                  | (subst h2; rfl)
                  | (subst h11; rfl)
                  | (subst h20; rfl)
                  | (subst h29; rw [j5, if_pos h33]; rfl)
                  | (subst h29; rw [j5, if_neg h33])
                  | (subst h57; rw [j6, if_neg (Int32.not_lt.mpr h46)]; done)
                  | (subst h57; rw [j6, if_pos (Int32.not_le.mp h46)]; done)
                  | (rw [show k = 7 by omega, j7]
                     by_cases e : b < a
                     · rw [if_pos e]
                     · rw [if_neg e]
                       exact Int32.le_antisymm (by first | exact Int32.not_lt.mp e | exact h46) (by first | exact h46 | exact Int32.not_lt.mp e))
                  | (rw [show k = 7 by omega, j7, if_neg (fun e => h46 (Int32.le_of_lt e))])
          · refine r_iconst (v := nI 1) dX10_both_49 (by decide) ?_
            refine r_goto (tgt := 54) dX10_both_50 (by decide) ?_
            refine r_iload_n dX10_both_54 rfl (by rfl) ?_
            refine r_bipush (v := nI 6) dX10_both_55 (by decide) ?_
            refine r_icmp_neN (tgt := 64) dX10_both_57 (by decide) (by omega) (by omega) (fun h57 => ?_) (fun h57 => ?_)
            · refine r_iconst (v := nI 0) dX10_both_64 (by decide) ?_
              refine r_icmp_neN (tgt := 72) dX10_both_65 (by decide) (by omega) (by omega) (fun h65 => ?_) (fun h65 => ?_)
              · refine r_iload_n dX10_both_72 rfl (by rfl) ?_
                refine r_iret rfl dX10_both_73 ?_
                refine ⟨congrArg some (congrArg Value.int ?_), rfl⟩
                first
                  | (exfalso; omega)
                  | (subst h2; rfl)
                  | (subst h11; rfl)
                  | (subst h20; rfl)
                  | (subst h29; rw [j5, if_pos h33]; rfl)
                  | (subst h29; rw [j5, if_neg h33])
                  | (subst h57; rw [j6, if_neg (Int32.not_lt.mpr h46)]; done)
                  | (subst h57; rw [j6, if_pos (Int32.not_le.mp h46)]; done)
                  | (rw [show k = 7 by omega, j7]
                     by_cases e : b < a
                     · rw [if_pos e]
                     · rw [if_neg e]
                       exact Int32.le_antisymm (by first | exact Int32.not_lt.mp e | exact h46) (by first | exact h46 | exact Int32.not_lt.mp e))
                  | (rw [show k = 7 by omega, j7, if_neg (fun e => h46 (Int32.le_of_lt e))])
              · refine r_iload_n dX10_both_68 rfl (by rfl) ?_
                refine r_goto (tgt := 73) dX10_both_69 (by decide) ?_
                refine r_iret rfl dX10_both_73 ?_
                refine ⟨congrArg some (congrArg Value.int ?_), rfl⟩
                first
                  | (exfalso; omega)
                  | (subst h2; rfl)
                  | (subst h11; rfl)
                  | (subst h20; rfl)
                  | (subst h29; rw [j5, if_pos h33]; rfl)
                  | (subst h29; rw [j5, if_neg h33])
                  | (subst h57; rw [j6, if_neg (Int32.not_lt.mpr h46)]; done)
                  | (subst h57; rw [j6, if_pos (Int32.not_le.mp h46)]; done)
                  | (rw [show k = 7 by omega, j7]
                     by_cases e : b < a
                     · rw [if_pos e]
                     · rw [if_neg e]
                       exact Int32.le_antisymm (by first | exact Int32.not_lt.mp e | exact h46) (by first | exact h46 | exact Int32.not_lt.mp e))
                  | (rw [show k = 7 by omega, j7, if_neg (fun e => h46 (Int32.le_of_lt e))])
            · refine r_iconst (v := nI 1) dX10_both_60 (by decide) ?_
              refine r_goto (tgt := 65) dX10_both_61 (by decide) ?_
              refine r_icmp_neN (tgt := 72) dX10_both_65 (by decide) (by omega) (by omega) (fun h65 => ?_) (fun h65 => ?_)
              · refine r_iload_n dX10_both_72 rfl (by rfl) ?_
                refine r_iret rfl dX10_both_73 ?_
                refine ⟨congrArg some (congrArg Value.int ?_), rfl⟩
                first
                  | (exfalso; omega)
                  | (subst h2; rfl)
                  | (subst h11; rfl)
                  | (subst h20; rfl)
                  | (subst h29; rw [j5, if_pos h33]; rfl)
                  | (subst h29; rw [j5, if_neg h33])
                  | (subst h57; rw [j6, if_neg (Int32.not_lt.mpr h46)]; done)
                  | (subst h57; rw [j6, if_pos (Int32.not_le.mp h46)]; done)
                  | (rw [show k = 7 by omega, j7]
                     by_cases e : b < a
                     · rw [if_pos e]
                     · rw [if_neg e]
                       exact Int32.le_antisymm (by first | exact Int32.not_lt.mp e | exact h46) (by first | exact h46 | exact Int32.not_lt.mp e))
                  | (rw [show k = 7 by omega, j7, if_neg (fun e => h46 (Int32.le_of_lt e))])
              · refine r_iload_n dX10_both_68 rfl (by rfl) ?_
                refine r_goto (tgt := 73) dX10_both_69 (by decide) ?_
                refine r_iret rfl dX10_both_73 ?_
                refine ⟨congrArg some (congrArg Value.int ?_), rfl⟩
                first
                  | (exfalso; omega)
                  | (subst h2; rfl)
                  | (subst h11; rfl)
                  | (subst h20; rfl)
                  | (subst h29; rw [j5, if_pos h33]; rfl)
                  | (subst h29; rw [j5, if_neg h33])
                  | (subst h57; rw [j6, if_neg (Int32.not_lt.mpr h46)]; done)
                  | (subst h57; rw [j6, if_pos (Int32.not_le.mp h46)]; done)
                  | (rw [show k = 7 by omega, j7]
                     by_cases e : b < a
                     · rw [if_pos e]
                     · rw [if_neg e]
                       exact Int32.le_antisymm (by first | exact Int32.not_lt.mp e | exact h46) (by first | exact h46 | exact Int32.not_lt.mp e))
                  | (rw [show k = 7 by omega, j7, if_neg (fun e => h46 (Int32.le_of_lt e))])
        · refine r_iload_n dX10_both_32 rfl (by rfl) ?_
          refine r_if_ne (tgt := 40) dX10_both_33 (by decide) (fun h33 => ?_) (fun h33 => ?_)
          · refine r_iload_n dX10_both_40 rfl (by rfl) ?_
            refine r_iload_n dX10_both_41 rfl (by rfl) ?_
            refine r_idiv dX10_both_42 h33 ?_
            refine r_iret rfl dX10_both_43 ?_
            refine ⟨congrArg some (congrArg Value.int ?_), rfl⟩
            first
              | (exfalso; omega)
              | (subst h2; rfl)
              | (subst h11; rfl)
              | (subst h20; rfl)
              | (subst h29; rw [j5, if_pos h33]; rfl)
              | (subst h29; rw [j5, if_neg h33])
              | (subst h57; rw [j6, if_neg (Int32.not_lt.mpr h46)]; done)
              | (subst h57; rw [j6, if_pos (Int32.not_le.mp h46)]; done)
              | (rw [show k = 7 by omega, j7]
                 by_cases e : b < a
                 · rw [if_pos e]
                 · rw [if_neg e]
                   exact Int32.le_antisymm (by first | exact Int32.not_lt.mp e | exact h46) (by first | exact h46 | exact Int32.not_lt.mp e))
              | (rw [show k = 7 by omega, j7, if_neg (fun e => h46 (Int32.le_of_lt e))])
          · refine r_iconst (v := nI 0) dX10_both_36 (by decide) ?_
            refine r_goto (tgt := 43) dX10_both_37 (by decide) ?_
            refine r_iret rfl dX10_both_43 ?_
            refine ⟨congrArg some (congrArg Value.int ?_), rfl⟩
            first
              | (exfalso; omega)
              | (subst h2; rfl)
              | (subst h11; rfl)
              | (subst h20; rfl)
              | (subst h29; rw [j5, if_pos h33]; rfl)
              | (subst h29; rw [j5, if_neg h33])
              | (subst h57; rw [j6, if_neg (Int32.not_lt.mpr h46)]; done)
              | (subst h57; rw [j6, if_pos (Int32.not_le.mp h46)]; done)
              | (rw [show k = 7 by omega, j7]
                 by_cases e : b < a
                 · rw [if_pos e]
                 · rw [if_neg e]
                   exact Int32.le_antisymm (by first | exact Int32.not_lt.mp e | exact h46) (by first | exact h46 | exact Int32.not_lt.mp e))
              | (rw [show k = 7 by omega, j7, if_neg (fun e => h46 (Int32.le_of_lt e))])
      · refine r_iload_n dX10_both_23 rfl (by rfl) ?_
        refine r_iload_n dX10_both_24 rfl (by rfl) ?_
        refine r_imul dX10_both_25 ?_
        refine r_iret rfl dX10_both_26 ?_
        refine ⟨congrArg some (congrArg Value.int ?_), rfl⟩
        first
          | (exfalso; omega)
          | (subst h2; rfl)
          | (subst h11; rfl)
          | (subst h20; rfl)
          | (subst h29; rw [j5, if_pos h33]; rfl)
          | (subst h29; rw [j5, if_neg h33])
          | (subst h57; rw [j6, if_neg (Int32.not_lt.mpr h46)]; done)
          | (subst h57; rw [j6, if_pos (Int32.not_le.mp h46)]; done)
          | (rw [show k = 7 by omega, j7]
             by_cases e : b < a
             · rw [if_pos e]
             · rw [if_neg e]
               exact Int32.le_antisymm (by first | exact Int32.not_lt.mp e | exact h46) (by first | exact h46 | exact Int32.not_lt.mp e))
          | (rw [show k = 7 by omega, j7, if_neg (fun e => h46 (Int32.le_of_lt e))])
    · refine r_iload_n dX10_both_14 rfl (by rfl) ?_
      refine r_iload_n dX10_both_15 rfl (by rfl) ?_
      refine r_isub dX10_both_16 ?_
      refine r_iret rfl dX10_both_17 ?_
      refine ⟨congrArg some (congrArg Value.int ?_), rfl⟩
      first
        | (exfalso; omega)
        | (subst h2; rfl)
        | (subst h11; rfl)
        | (subst h20; rfl)
        | (subst h29; rw [j5, if_pos h33]; rfl)
        | (subst h29; rw [j5, if_neg h33])
        | (subst h57; rw [j6, if_neg (Int32.not_lt.mpr h46)]; done)
        | (subst h57; rw [j6, if_pos (Int32.not_le.mp h46)]; done)
        | (rw [show k = 7 by omega, j7]
           by_cases e : b < a
           · rw [if_pos e]
           · rw [if_neg e]
             exact Int32.le_antisymm (by first | exact Int32.not_lt.mp e | exact h46) (by first | exact h46 | exact Int32.not_lt.mp e))
        | (rw [show k = 7 by omega, j7, if_neg (fun e => h46 (Int32.le_of_lt e))])
  · refine r_iload_n dX10_both_5 rfl (by rfl) ?_
    refine r_iload_n dX10_both_6 rfl (by rfl) ?_
    refine r_iadd dX10_both_7 ?_
    refine r_iret rfl dX10_both_8 ?_
    refine ⟨congrArg some (congrArg Value.int ?_), rfl⟩
    first
      | (exfalso; omega)
      | (subst h2; rfl)
      | (subst h11; rfl)
      | (subst h20; rfl)
      | (subst h29; rw [j5, if_pos h33]; rfl)
      | (subst h29; rw [j5, if_neg h33])
      | (subst h57; rw [j6, if_neg (Int32.not_lt.mpr h46)]; done)
      | (subst h57; rw [j6, if_pos (Int32.not_le.mp h46)]; done)
      | (rw [show k = 7 by omega, j7]
         by_cases e : b < a
         · rw [if_pos e]
         · rw [if_neg e]
           exact Int32.le_antisymm (by first | exact Int32.not_lt.mp e | exact h46) (by first | exact h46 | exact Int32.not_lt.mp e))
      | (rw [show k = 7 by omega, j7, if_neg (fun e => h46 (Int32.le_of_lt e))])
theorem kd_push {c : Nat} (h : c < 1009 ∨ (2000 ≤ c ∧ c < 2006)) (hk : kdN c ≤ 1) : c < 1009 := by
  unfold kdN at hk
  split at hk
  · omega
  · split at hk
    · omega
    · omega
theorem kd_sign {c : Nat} (h : c < 1009 ∨ (2000 ≤ c ∧ c < 2006)) (hk : 1 < kdN c) : 2000 ≤ c ∧ c < 2006 ∧ kdN c = c - 1998 := by
  unfold kdN at hk ⊢
  split at hk
  · omega
  · split at hk
    · omega
    · rw [if_neg (by omega), if_neg (by omega)]
      omega
theorem kd_fact {c : Nat} (h : c < 1009 ∨ (2000 ≤ c ∧ c < 2006)) (hk : kdN c ≤ 1) (h0 : ¬ nI (kdN c) = 0) : ofN c < 9 := by
  have h9 := kd_push h hk
  have h1 : ¬ c < 1000 := fun q => h0 (by unfold kdN; rw [if_pos q]; rfl)
  unfold ofN
  rw [if_neg h1, if_pos (by omega)]
  omega
theorem kd_lt {c : Nat} (h : c < 1009 ∨ (2000 ≤ c ∧ c < 2006)) : kdN c ≤ 7 ∧ ofN c < 1000 := by
  unfold kdN ofN
  constructor
  · split
    · omega
    · split <;> omega
  · split
    · omega
    · split <;> omega
set_option maxHeartbeats 8000000 in
set_option maxRecDepth 20000 in
theorem c_valueOf {w : Nat} {l : List Nat} {x : XS} (hw : w < 2) (hl : LW l) (h148 : x 148 w = nI l.length) (hcode : ∀ i q, l[i]? = some q → x 146 (150 * w + i) = nI (kdN q) ∧ x 147 (150 * w + i) = nI (ofN q)) : MM mX10_valueOf 1 0 0 [.ref 137, .int (nI w)] x (fun v y => v = some (.int (LV l (x 150))) ∧ ∀ c, c ≠ 149 → y c = x c) NoT := by
  refine MM.of (by decide) (Nat.le_of_ble_eq_true rfl) ?_
  have y137 := lay_137
  have y146 := lay_146
  have y147 := lay_147
  have y148 := lay_148
  have y149 := lay_149
  have y150 := lay_150
  have len9 := hl.1
  refine r_iconst (v := nI 0) dX10_valueOf_0 (by decide) ?_
  refine r_istore_n dX10_valueOf_1 rfl (by decide) ?_
  refine r_sipush (v := nI 150) dX10_valueOf_2 (by decide) ?_
  refine r_iload_n dX10_valueOf_5 rfl (by rfl) ?_
  refine r_imulN dX10_valueOf_6 ?_
  refine r_istore_n dX10_valueOf_7 rfl (by decide) ?_
  refine PW.loop (σ := Nat × Nat × XS) (fun s => l.length - s.1) (fun s => s.1 ≤ l.length ∧ s.2.1 ≤ s.1 ∧ (∀ c, c ≠ 149 → s.2.2 c = x c) ∧ evL (x 150) (l.drop s.1) (stk (s.2.2 149) s.2.1) = evL (x 150) l [] ∧ RH (l.drop s.1) s.2.1 1) (fun s => [(0, .ref 137), (1, .int (nI w)), (2, .int (nI s.2.1)), (3, .int (nI (150 * w + s.1)))]) (fun s => s.2.2) ((0, 0, x)) (⟨Nat.zero_le _, Nat.le_refl _, fun _ _ => rfl, rfl, hl.2.2.1⟩) rfl rfl (fun s hs ih => ?_)
  obtain ⟨hj, hh, hfr, hev, hrh⟩ := hs
  have e146 : s.2.2 146 = x 146 := hfr 146 (by decide)
  have e147 : s.2.2 147 = x 147 := hfr 147 (by decide)
  have e148 : s.2.2 148 = x 148 := hfr 148 (by decide)
  have e150 : s.2.2 150 = x 150 := hfr 150 (by decide)
  have len5 := hl.1
  refine r_iload_n dX10_valueOf_8 rfl (by rfl) ?_
  refine r_sipush (v := nI 150) dX10_valueOf_9 (by decide) ?_
  refine r_iload_n dX10_valueOf_12 rfl (by rfl) ?_
  refine r_imulN dX10_valueOf_13 ?_
  refine r_aload_n dX10_valueOf_14 rfl (by rfl) ?_
  refine gf_X10_47 rfl dX10_valueOf_15 (by first | assumption | rfl) (by rfl) ?_
  refine r_iload_n dX10_valueOf_18 rfl (by rfl) ?_
  refine r_ialdN dX10_valueOf_19 (by first | assumption | rfl) (by omega) (by decide) ?_
  refine PW.topi (show _ = nI l.length by rw [e148]; exact h148) ?_
  refine r_iaddN dX10_valueOf_20 ?_
  refine PW.lc (L' := [(0, .ref 137), (1, .int (nI w)), (2, .int (nI s.2.1)), (3, .int (nI (150 * w + s.1)))]) (by rfl) rfl ?_
  refine r_icmp_geN (tgt := 111) dX10_valueOf_21 (by decide) (by omega) (by omega) (fun h21 => ?_) (fun h21 => ?_)
  · refine r_aload_n dX10_valueOf_111 rfl (by rfl) ?_
    refine gf_X10_50 rfl dX10_valueOf_112 (by first | assumption | rfl) (by rfl) ?_
    refine r_iconst (v := nI 0) dX10_valueOf_115 (by decide) ?_
    refine r_ialdN dX10_valueOf_116 (by first | assumption | rfl) (by omega) (by decide) ?_
    refine r_iret rfl dX10_valueOf_117 ?_
    have hjl : s.1 = l.length := by omega
    rw [hjl, List.drop_length] at hev hrh
    have h1 : s.2.1 = 1 := hrh
    rw [h1] at hev
    refine ⟨?_, hfr⟩
    have e9 : evL (x 150) l [] = some [s.2.2 149 0] := hev.symm
    unfold LV
    rw [e9]
  · have hjl : s.1 < l.length := by omega
    obtain ⟨c, hc⟩ : ∃ c, l[s.1]? = some c := ⟨_, List.getElem?_eq_getElem hjl⟩
    have hcv := hl.2.2.2 c (List.mem_of_getElem? hc)
    have hkl := kd_lt hcv
    have hcd := hcode s.1 c hc
    have hdr : l.drop s.1 = c :: l.drop (s.1 + 1) := by
      rw [List.drop_eq_getElem_cons hjl]
      congr 1
      have := List.getElem?_eq_getElem hjl
      rw [hc] at this
      injection this with this
      exact this.symm
    rw [hdr] at hev hrh
    have hrh : if c < 2000 then s.2.1 + 1 ≤ 32 ∧ RH (l.drop (s.1 + 1)) (s.2.1 + 1) 1 else 2 ≤ s.2.1 ∧ RH (l.drop (s.1 + 1)) (s.2.1 - 1) 1 := hrh
    refine r_aload_n dX10_valueOf_24 rfl (by rfl) ?_
    refine gf_X10_41 rfl dX10_valueOf_25 (by first | assumption | rfl) (by rfl) ?_
    refine r_iload_n dX10_valueOf_28 rfl (by rfl) ?_
    refine r_ialdN dX10_valueOf_29 (by first | assumption | rfl) (by omega) (by decide) ?_
    refine PW.topi (show _ = nI (kdN c) by rw [e146]; exact hcd.1) ?_
    refine r_istore dX10_valueOf_30 (by decide) ?_
    refine r_iload dX10_valueOf_32 (by rfl) ?_
    refine r_iconst (v := nI 1) dX10_valueOf_34 (by decide) ?_
    refine r_icmp_gtN (tgt := 75) dX10_valueOf_35 (by decide) (by omega) (by omega) (fun h35 => ?_) (fun h35 => ?_)
    · obtain ⟨hc1, hc2, hc3⟩ := kd_sign hcv h35
      rw [if_neg (by omega)] at hrh
      refine r_iinc dX10_valueOf_75 (by rfl) (nI_dec (by omega)) (by decide) ?_
      refine r_aload_n dX10_valueOf_78 rfl (by rfl) ?_
      refine gf_X10_50 rfl dX10_valueOf_79 (by first | assumption | rfl) (by rfl) ?_
      refine r_iload_n dX10_valueOf_82 rfl (by rfl) ?_
      refine r_iconst (v := nI 1) dX10_valueOf_83 (by decide) ?_
      refine r_isubN dX10_valueOf_84 (by omega) ?_
      refine r_iload dX10_valueOf_85 (by rfl) ?_
      refine r_aload_n dX10_valueOf_87 rfl (by rfl) ?_
      refine gf_X10_50 rfl dX10_valueOf_88 (by first | assumption | rfl) (by rfl) ?_
      refine r_iload_n dX10_valueOf_91 rfl (by rfl) ?_
      refine r_iconst (v := nI 1) dX10_valueOf_92 (by decide) ?_
      refine r_isubN dX10_valueOf_93 (by omega) ?_
      refine r_ialdN dX10_valueOf_94 (by first | assumption | rfl) (by omega) (by decide) ?_
      refine r_aload_n dX10_valueOf_95 rfl (by rfl) ?_
      refine gf_X10_50 rfl dX10_valueOf_96 (by first | assumption | rfl) (by rfl) ?_
      refine r_iload_n dX10_valueOf_99 rfl (by rfl) ?_
      refine r_ialdN dX10_valueOf_100 (by first | assumption | rfl) (by omega) (by decide) ?_
      refine r_callS (c_both (k := kdN c) (by omega)) ms_X10_both ml_X10_286 ⟨by decide, by decide⟩ dX10_valueOf_101 rfl (Nat.le_of_ble_eq_true rfl) (fun v9 x9 h9 => ?_)
      obtain ⟨rfl, h9⟩ := h9
      refine PW.xeq h9 ?_
      clear h9 x9
      refine r_iastN dX10_valueOf_104 (by first | assumption | rfl) (by omega) (by decide) ?_
      refine r_iincN dX10_valueOf_105 (by rfl) (by decide) ?_
      refine r_goto (tgt := 8) dX10_valueOf_108 (by decide) ?_
      first
        | (have c0 : c < 1000 := by
             by_cases q : c < 1000
             · exact q
             · exfalso
               refine absurd h45 (nI_ne0 ?_ (by omega))
               unfold kdN
               rw [if_neg q]
               split <;> omega
           have eo : ofN c = c := by unfold ofN; rw [if_pos c0]
           refine PW.lc (by rfl) rfl (ih (s.1 + 1, s.2.1 + 1, xu s.2.2 149 s.2.1 (nI (ofN c))) ⟨(show s.1 + 1 ≤ l.length by omega), (show s.2.1 + 1 ≤ s.1 + 1 by omega), (fun d hd => (xu_n hd).trans (hfr d hd)), ?_, hrh.2⟩ (show l.length - (s.1 + 1) < l.length - s.1 by omega))
           rw [← hev]
           show evL (x 150) (l.drop (s.1 + 1)) (upd (s.2.2 149) s.2.1 (nI (ofN c)) s.2.1 :: stk (upd (s.2.2 149) s.2.1 (nI (ofN c))) s.2.1) = (match evS (x 150) c (stk (s.2.2 149) s.2.1) with | some st1 => evL (x 150) (l.drop (s.1 + 1)) st1 | none => none)
           unfold evS
           rw [pk_us, stk_upd _ (Nat.le_refl _), if_pos (by omega), if_pos c0, eo])
        | (have c0 : ¬ c < 1000 := fun q => h45 (by unfold kdN; rw [if_pos q]; rfl)
           have eo : ofN c = c - 1000 := by unfold ofN; rw [if_neg c0, if_pos (by omega)]
           refine PW.lc (by rfl) rfl (ih (s.1 + 1, s.2.1 + 1, xu s.2.2 149 s.2.1 (s.2.2 150 (ofN c))) ⟨(show s.1 + 1 ≤ l.length by omega), (show s.2.1 + 1 ≤ s.1 + 1 by omega), (fun d hd => (xu_n hd).trans (hfr d hd)), ?_, hrh.2⟩ (show l.length - (s.1 + 1) < l.length - s.1 by omega))
           rw [← hev]
           show evL (x 150) (l.drop (s.1 + 1)) (upd (s.2.2 149) s.2.1 (s.2.2 150 (ofN c)) s.2.1 :: stk (upd (s.2.2 149) s.2.1 (s.2.2 150 (ofN c))) s.2.1) = (match evS (x 150) c (stk (s.2.2 149) s.2.1) with | some st1 => evL (x 150) (l.drop (s.1 + 1)) st1 | none => none)
           unfold evS
           rw [pk_us, stk_upd _ (Nat.le_refl _), if_pos (by omega), if_neg c0, eo, e150])
        | (obtain ⟨k2, hk2⟩ : ∃ k2, s.2.1 = k2 + 2 := ⟨s.2.1 - 2, by omega⟩
           refine PW.lc (by rfl) rfl (ih (s.1 + 1, s.2.1 - 1, xu s.2.2 149 (s.2.1 - 1 - 1) (joinC (nI (1998 + kdN c)) (s.2.2 149 (s.2.1 - 1 - 1)) (s.2.2 149 (s.2.1 - 1)))) ⟨(show s.1 + 1 ≤ l.length by omega), (show s.2.1 - 1 ≤ s.1 + 1 by omega), (fun d hd => (xu_n hd).trans (hfr d hd)), ?_, hrh.2⟩ (show l.length - (s.1 + 1) < l.length - s.1 by omega))
           rw [← hev, hk2, show 1998 + kdN c = c by omega]
           show evL (x 150) (l.drop (s.1 + 1)) (upd (s.2.2 149) k2 (joinC (nI c) (s.2.2 149 k2) (s.2.2 149 (k2 + 1))) k2 :: stk (upd (s.2.2 149) k2 (joinC (nI c) (s.2.2 149 k2) (s.2.2 149 (k2 + 1)))) k2) = (match evS (x 150) c (s.2.2 149 (k2 + 1) :: s.2.2 149 k2 :: stk (s.2.2 149) k2) with | some st1 => evL (x 150) (l.drop (s.1 + 1)) st1 | none => none)
           unfold evS
           rw [pk_us, stk_upd _ (Nat.le_refl _), if_neg (by omega)])
    · have hc9 := kd_push hcv h35
      rw [if_pos (by omega)] at hrh
      refine r_aload_n dX10_valueOf_38 rfl (by rfl) ?_
      refine gf_X10_50 rfl dX10_valueOf_39 (by first | assumption | rfl) (by rfl) ?_
      refine r_iload_n dX10_valueOf_42 rfl (by rfl) ?_
      refine r_iload dX10_valueOf_43 (by rfl) ?_
      refine r_if_ne (tgt := 57) dX10_valueOf_45 (by decide) (fun h45 => ?_) (fun h45 => ?_)
      · refine r_aload_n dX10_valueOf_57 rfl (by rfl) ?_
        refine gf_X10_53 rfl dX10_valueOf_58 (by first | assumption | rfl) (by rfl) ?_
        refine r_aload_n dX10_valueOf_61 rfl (by rfl) ?_
        refine gf_X10_44 rfl dX10_valueOf_62 (by first | assumption | rfl) (by rfl) ?_
        refine r_iload_n dX10_valueOf_65 rfl (by rfl) ?_
        refine r_ialdN dX10_valueOf_66 (by first | assumption | rfl) (by omega) (by decide) ?_
        refine PW.topi (show _ = nI (ofN c) by rw [e147]; exact hcd.2) ?_
        refine r_ialdN dX10_valueOf_67 (by first | assumption | rfl) (kd_fact hcv h35 h45) (by decide) ?_
        refine r_iastN dX10_valueOf_68 (by first | assumption | rfl) (by omega) (by decide) ?_
        refine r_iincN dX10_valueOf_69 (by rfl) (by decide) ?_
        refine r_goto (tgt := 105) dX10_valueOf_72 (by decide) ?_
        refine r_iincN dX10_valueOf_105 (by rfl) (by decide) ?_
        refine r_goto (tgt := 8) dX10_valueOf_108 (by decide) ?_
        first
          | (have c0 : c < 1000 := by
               by_cases q : c < 1000
               · exact q
               · exfalso
                 refine absurd h45 (nI_ne0 ?_ (by omega))
                 unfold kdN
                 rw [if_neg q]
                 split <;> omega
             have eo : ofN c = c := by unfold ofN; rw [if_pos c0]
             refine PW.lc (by rfl) rfl (ih (s.1 + 1, s.2.1 + 1, xu s.2.2 149 s.2.1 (nI (ofN c))) ⟨(show s.1 + 1 ≤ l.length by omega), (show s.2.1 + 1 ≤ s.1 + 1 by omega), (fun d hd => (xu_n hd).trans (hfr d hd)), ?_, hrh.2⟩ (show l.length - (s.1 + 1) < l.length - s.1 by omega))
             rw [← hev]
             show evL (x 150) (l.drop (s.1 + 1)) (upd (s.2.2 149) s.2.1 (nI (ofN c)) s.2.1 :: stk (upd (s.2.2 149) s.2.1 (nI (ofN c))) s.2.1) = (match evS (x 150) c (stk (s.2.2 149) s.2.1) with | some st1 => evL (x 150) (l.drop (s.1 + 1)) st1 | none => none)
             unfold evS
             rw [pk_us, stk_upd _ (Nat.le_refl _), if_pos (by omega), if_pos c0, eo])
          | (have c0 : ¬ c < 1000 := fun q => h45 (by unfold kdN; rw [if_pos q]; rfl)
             have eo : ofN c = c - 1000 := by unfold ofN; rw [if_neg c0, if_pos (by omega)]
             refine PW.lc (by rfl) rfl (ih (s.1 + 1, s.2.1 + 1, xu s.2.2 149 s.2.1 (s.2.2 150 (ofN c))) ⟨(show s.1 + 1 ≤ l.length by omega), (show s.2.1 + 1 ≤ s.1 + 1 by omega), (fun d hd => (xu_n hd).trans (hfr d hd)), ?_, hrh.2⟩ (show l.length - (s.1 + 1) < l.length - s.1 by omega))
             rw [← hev]
             show evL (x 150) (l.drop (s.1 + 1)) (upd (s.2.2 149) s.2.1 (s.2.2 150 (ofN c)) s.2.1 :: stk (upd (s.2.2 149) s.2.1 (s.2.2 150 (ofN c))) s.2.1) = (match evS (x 150) c (stk (s.2.2 149) s.2.1) with | some st1 => evL (x 150) (l.drop (s.1 + 1)) st1 | none => none)
             unfold evS
             rw [pk_us, stk_upd _ (Nat.le_refl _), if_pos (by omega), if_neg c0, eo, e150])
          | (obtain ⟨k2, hk2⟩ : ∃ k2, s.2.1 = k2 + 2 := ⟨s.2.1 - 2, by omega⟩
             refine PW.lc (by rfl) rfl (ih (s.1 + 1, s.2.1 - 1, xu s.2.2 149 (s.2.1 - 1 - 1) (joinC (nI (1998 + kdN c)) (s.2.2 149 (s.2.1 - 1 - 1)) (s.2.2 149 (s.2.1 - 1)))) ⟨(show s.1 + 1 ≤ l.length by omega), (show s.2.1 - 1 ≤ s.1 + 1 by omega), (fun d hd => (xu_n hd).trans (hfr d hd)), ?_, hrh.2⟩ (show l.length - (s.1 + 1) < l.length - s.1 by omega))
             rw [← hev, hk2, show 1998 + kdN c = c by omega]
             show evL (x 150) (l.drop (s.1 + 1)) (upd (s.2.2 149) k2 (joinC (nI c) (s.2.2 149 k2) (s.2.2 149 (k2 + 1))) k2 :: stk (upd (s.2.2 149) k2 (joinC (nI c) (s.2.2 149 k2) (s.2.2 149 (k2 + 1)))) k2) = (match evS (x 150) c (s.2.2 149 (k2 + 1) :: s.2.2 149 k2 :: stk (s.2.2 149) k2) with | some st1 => evL (x 150) (l.drop (s.1 + 1)) st1 | none => none)
             unfold evS
             rw [pk_us, stk_upd _ (Nat.le_refl _), if_neg (by omega)])
      · refine r_aload_n dX10_valueOf_48 rfl (by rfl) ?_
        refine gf_X10_44 rfl dX10_valueOf_49 (by first | assumption | rfl) (by rfl) ?_
        refine r_iload_n dX10_valueOf_52 rfl (by rfl) ?_
        refine r_ialdN dX10_valueOf_53 (by first | assumption | rfl) (by omega) (by decide) ?_
        refine PW.topi (show _ = nI (ofN c) by rw [e147]; exact hcd.2) ?_
        refine r_goto (tgt := 68) dX10_valueOf_54 (by decide) ?_
        refine r_iastN dX10_valueOf_68 (by first | assumption | rfl) (by omega) (by decide) ?_
        refine r_iincN dX10_valueOf_69 (by rfl) (by decide) ?_
        refine r_goto (tgt := 105) dX10_valueOf_72 (by decide) ?_
        refine r_iincN dX10_valueOf_105 (by rfl) (by decide) ?_
        refine r_goto (tgt := 8) dX10_valueOf_108 (by decide) ?_
        first
          | (have c0 : c < 1000 := by
               by_cases q : c < 1000
               · exact q
               · exfalso
                 refine absurd h45 (nI_ne0 ?_ (by omega))
                 unfold kdN
                 rw [if_neg q]
                 split <;> omega
             have eo : ofN c = c := by unfold ofN; rw [if_pos c0]
             refine PW.lc (by rfl) rfl (ih (s.1 + 1, s.2.1 + 1, xu s.2.2 149 s.2.1 (nI (ofN c))) ⟨(show s.1 + 1 ≤ l.length by omega), (show s.2.1 + 1 ≤ s.1 + 1 by omega), (fun d hd => (xu_n hd).trans (hfr d hd)), ?_, hrh.2⟩ (show l.length - (s.1 + 1) < l.length - s.1 by omega))
             rw [← hev]
             show evL (x 150) (l.drop (s.1 + 1)) (upd (s.2.2 149) s.2.1 (nI (ofN c)) s.2.1 :: stk (upd (s.2.2 149) s.2.1 (nI (ofN c))) s.2.1) = (match evS (x 150) c (stk (s.2.2 149) s.2.1) with | some st1 => evL (x 150) (l.drop (s.1 + 1)) st1 | none => none)
             unfold evS
             rw [pk_us, stk_upd _ (Nat.le_refl _), if_pos (by omega), if_pos c0, eo])
          | (have c0 : ¬ c < 1000 := fun q => h45 (by unfold kdN; rw [if_pos q]; rfl)
             have eo : ofN c = c - 1000 := by unfold ofN; rw [if_neg c0, if_pos (by omega)]
             refine PW.lc (by rfl) rfl (ih (s.1 + 1, s.2.1 + 1, xu s.2.2 149 s.2.1 (s.2.2 150 (ofN c))) ⟨(show s.1 + 1 ≤ l.length by omega), (show s.2.1 + 1 ≤ s.1 + 1 by omega), (fun d hd => (xu_n hd).trans (hfr d hd)), ?_, hrh.2⟩ (show l.length - (s.1 + 1) < l.length - s.1 by omega))
             rw [← hev]
             show evL (x 150) (l.drop (s.1 + 1)) (upd (s.2.2 149) s.2.1 (s.2.2 150 (ofN c)) s.2.1 :: stk (upd (s.2.2 149) s.2.1 (s.2.2 150 (ofN c))) s.2.1) = (match evS (x 150) c (stk (s.2.2 149) s.2.1) with | some st1 => evL (x 150) (l.drop (s.1 + 1)) st1 | none => none)
             unfold evS
             rw [pk_us, stk_upd _ (Nat.le_refl _), if_pos (by omega), if_neg c0, eo, e150])
          | (obtain ⟨k2, hk2⟩ : ∃ k2, s.2.1 = k2 + 2 := ⟨s.2.1 - 2, by omega⟩
             refine PW.lc (by rfl) rfl (ih (s.1 + 1, s.2.1 - 1, xu s.2.2 149 (s.2.1 - 1 - 1) (joinC (nI (1998 + kdN c)) (s.2.2 149 (s.2.1 - 1 - 1)) (s.2.2 149 (s.2.1 - 1)))) ⟨(show s.1 + 1 ≤ l.length by omega), (show s.2.1 - 1 ≤ s.1 + 1 by omega), (fun d hd => (xu_n hd).trans (hfr d hd)), ?_, hrh.2⟩ (show l.length - (s.1 + 1) < l.length - s.1 by omega))
             rw [← hev, hk2, show 1998 + kdN c = c by omega]
             show evL (x 150) (l.drop (s.1 + 1)) (upd (s.2.2 149) k2 (joinC (nI c) (s.2.2 149 k2) (s.2.2 149 (k2 + 1))) k2 :: stk (upd (s.2.2 149) k2 (joinC (nI c) (s.2.2 149 k2) (s.2.2 149 (k2 + 1)))) k2) = (match evS (x 150) c (s.2.2 149 (k2 + 1) :: s.2.2 149 k2 :: stk (s.2.2 149) k2) with | some st1 => evL (x 150) (l.drop (s.1 + 1)) st1 | none => none)
             unfold evS
             rw [pk_us, stk_upd _ (Nat.le_refl _), if_neg (by omega)])
theorem LV_loud (g : Nat → Int32) : LV loudL g = g 0 * nI 2 + g 1 + g 2 := rfl
theorem LV_falls (g : Nat → Int32) : LV fallsL g = g 4 / nI 4 - g 5 := rfl
theorem bnd_ref (v : Int32) : bnd v = if v < 0 then nI 0 else if nI 40 < v then nI 40 else v := by
  unfold bnd imax imin
  by_cases h1 : v < nI 40
  · rw [if_pos h1]
    by_cases h2 : v < 0
    · rw [if_pos h2, if_neg (show ¬ nI 0 < v from fun h => Int32.lt_irrefl (Int32.lt_trans h2 h))]
    · rw [if_neg h2, if_neg (show ¬ nI 40 < v from fun h => Int32.lt_irrefl (Int32.lt_trans h1 h))]
      by_cases h3 : nI 0 < v
      · rw [if_pos h3]
      · rw [if_neg h3]
        exact Int32.le_antisymm (Int32.not_lt.mp h2) (Int32.not_lt.mp h3)
  · rw [if_neg h1, if_pos (nI_lt (by decide) (by decide))]
    have h40 : nI 40 ≤ v := Int32.not_lt.mp h1
    rw [if_neg (show ¬ v < 0 from fun h => absurd (Int32.lt_of_le_of_lt h40 h) (by decide +kernel))]
    by_cases h3 : nI 40 < v
    · rw [if_pos h3]
    · rw [if_neg h3]
      exact Int32.le_antisymm h40 (Int32.not_lt.mp h3)
def SC (x y : XS) : Prop := ∀ c, c ≠ 149 → c ≠ 150 → y c = x c
theorem SC.rfl {x : XS} : SC x x := fun _ _ _ => _root_.rfl
theorem SC.trans {x y z : XS} (h : SC x y) (h2 : SC y z) : SC x z := fun c a b => (h2 c a b).trans (h c a b)
set_option maxHeartbeats 8000000 in
set_option maxRecDepth 20000 in
theorem c_loudNow {l : List Nat} {x : XS} (hlo : RLo x 0 l) : MM mX10_loudNow 2 0 0 [.ref 137] x (fun v y => v = some (.int (bnd (LV l (x 150)))) ∧ ∀ c, c ≠ 149 → y c = x c) NoT := by
  refine MM.of (by decide) (Nat.le_of_ble_eq_true rfl) ?_
  have y137 := lay_137
  have y148 := lay_148
  have y150 := lay_150
  refine r_aload_n dX10_loudNow_0 rfl (by rfl) ?_
  refine gf_X10_47 rfl dX10_loudNow_1 (by first | assumption | rfl) (by rfl) ?_
  refine r_iconst (v := nI 0) dX10_loudNow_4 (by decide) ?_
  refine r_ialdN dX10_loudNow_5 (by first | assumption | rfl) (by omega) (by decide) ?_
  rcases hlo.2 with ⟨z0, zl⟩ | ⟨zn, zc⟩
  · refine PW.topi z0 ?_
    refine r_if_ne (tgt := 34) dX10_loudNow_6 (by decide) (fun h => absurd (show nI 0 = 0 from rfl) h) (fun _ => ?_)
    refine r_iconst (v := nI 2) dX10_loudNow_9 (by decide) ?_
    refine r_aload_n dX10_loudNow_10 rfl (by rfl) ?_
    refine gf_X10_53 rfl dX10_loudNow_11 (by first | assumption | rfl) (by rfl) ?_
    refine r_iconst (v := nI 0) dX10_loudNow_14 (by decide) ?_
    refine r_ialdN dX10_loudNow_15 (by first | assumption | rfl) (by omega) (by decide) ?_
    refine r_imul dX10_loudNow_16 ?_
    refine r_aload_n dX10_loudNow_17 rfl (by rfl) ?_
    refine gf_X10_53 rfl dX10_loudNow_18 (by first | assumption | rfl) (by rfl) ?_
    refine r_iconst (v := nI 1) dX10_loudNow_21 (by decide) ?_
    refine r_ialdN dX10_loudNow_22 (by first | assumption | rfl) (by omega) (by decide) ?_
    refine r_iadd dX10_loudNow_23 ?_
    refine r_aload_n dX10_loudNow_24 rfl (by rfl) ?_
    refine gf_X10_53 rfl dX10_loudNow_25 (by first | assumption | rfl) (by rfl) ?_
    refine r_iconst (v := nI 2) dX10_loudNow_28 (by decide) ?_
    refine r_ialdN dX10_loudNow_29 (by first | assumption | rfl) (by omega) (by decide) ?_
    refine r_iadd dX10_loudNow_30 ?_
    refine r_goto (tgt := 39) dX10_loudNow_31 (by decide) ?_
    refine PW.topi (show _ = LV l (x 150) by rw [zl, if_pos rfl, LV_loud, Int32.mul_comm]) ?_
    have F9 : ∀ c, c ≠ 149 → x c = x c := fun _ _ => rfl
    refine r_istore_n dX10_loudNow_39 rfl (by decide) ?_
    refine r_iload_n dX10_loudNow_40 rfl (by rfl) ?_
    refine r_if_ge (tgt := 48) dX10_loudNow_41 (by decide) (fun h41 => ?_) (fun h41 => ?_)
    · refine r_iload_n dX10_loudNow_48 rfl (by rfl) ?_
      refine r_bipush (v := nI 40) dX10_loudNow_49 (by decide) ?_
      refine r_icmp_le (tgt := 59) dX10_loudNow_51 (by decide) (fun h51 => ?_) (fun h51 => ?_)
      · refine r_iload_n dX10_loudNow_59 rfl (by rfl) ?_
        refine r_iret rfl dX10_loudNow_60 ?_
        refine ⟨congrArg some (congrArg Value.int ?_), F9⟩
        rw [bnd_ref]
        first
          | (rw [if_neg (Int32.not_lt.mpr h41), if_neg (Int32.not_lt.mpr h51)]; done)
          | (rw [if_neg (Int32.not_lt.mpr h41), if_pos (Int32.not_le.mp h51)]; done)
          | (rw [if_pos (Int32.not_le.mp h41)]; done)
      · refine r_bipush (v := nI 40) dX10_loudNow_54 (by decide) ?_
        refine r_goto (tgt := 60) dX10_loudNow_56 (by decide) ?_
        refine r_iret rfl dX10_loudNow_60 ?_
        refine ⟨congrArg some (congrArg Value.int ?_), F9⟩
        rw [bnd_ref]
        first
          | (rw [if_neg (Int32.not_lt.mpr h41), if_neg (Int32.not_lt.mpr h51)]; done)
          | (rw [if_neg (Int32.not_lt.mpr h41), if_pos (Int32.not_le.mp h51)]; done)
          | (rw [if_pos (Int32.not_le.mp h41)]; done)
    · refine r_iconst (v := nI 0) dX10_loudNow_44 (by decide) ?_
      refine r_goto (tgt := 60) dX10_loudNow_45 (by decide) ?_
      refine r_iret rfl dX10_loudNow_60 ?_
      refine ⟨congrArg some (congrArg Value.int ?_), F9⟩
      rw [bnd_ref]
      first
        | (rw [if_neg (Int32.not_lt.mpr h41), if_neg (Int32.not_lt.mpr h51)]; done)
        | (rw [if_neg (Int32.not_lt.mpr h41), if_pos (Int32.not_le.mp h51)]; done)
        | (rw [if_pos (Int32.not_le.mp h41)]; done)
  · refine PW.topi zn ?_
    refine r_if_ne (tgt := 34) dX10_loudNow_6 (by decide) (fun _ => ?_) (fun h => absurd h (nI_ne0 hlo.1.2.1 (by have := hlo.1.1; omega)))
    refine r_aload_n dX10_loudNow_34 rfl (by rfl) ?_
    refine r_iconst (v := nI 0) dX10_loudNow_35 (by decide) ?_
    refine r_callV (c_valueOf (by decide) hlo.1 zn zc) mv_X10_valueOf ml_X10_290 ⟨by decide, by decide⟩ dX10_loudNow_36 (by first | assumption | rfl) rfl rfl rfl (Nat.le_of_ble_eq_true rfl) (fun v9 y h9 => ?_)
    obtain ⟨rfl, F9⟩ := h9
    refine r_istore_n dX10_loudNow_39 rfl (by decide) ?_
    refine r_iload_n dX10_loudNow_40 rfl (by rfl) ?_
    refine r_if_ge (tgt := 48) dX10_loudNow_41 (by decide) (fun h41 => ?_) (fun h41 => ?_)
    · refine r_iload_n dX10_loudNow_48 rfl (by rfl) ?_
      refine r_bipush (v := nI 40) dX10_loudNow_49 (by decide) ?_
      refine r_icmp_le (tgt := 59) dX10_loudNow_51 (by decide) (fun h51 => ?_) (fun h51 => ?_)
      · refine r_iload_n dX10_loudNow_59 rfl (by rfl) ?_
        refine r_iret rfl dX10_loudNow_60 ?_
        refine ⟨congrArg some (congrArg Value.int ?_), F9⟩
        rw [bnd_ref]
        first
          | (rw [if_neg (Int32.not_lt.mpr h41), if_neg (Int32.not_lt.mpr h51)]; done)
          | (rw [if_neg (Int32.not_lt.mpr h41), if_pos (Int32.not_le.mp h51)]; done)
          | (rw [if_pos (Int32.not_le.mp h41)]; done)
      · refine r_bipush (v := nI 40) dX10_loudNow_54 (by decide) ?_
        refine r_goto (tgt := 60) dX10_loudNow_56 (by decide) ?_
        refine r_iret rfl dX10_loudNow_60 ?_
        refine ⟨congrArg some (congrArg Value.int ?_), F9⟩
        rw [bnd_ref]
        first
          | (rw [if_neg (Int32.not_lt.mpr h41), if_neg (Int32.not_lt.mpr h51)]; done)
          | (rw [if_neg (Int32.not_lt.mpr h41), if_pos (Int32.not_le.mp h51)]; done)
          | (rw [if_pos (Int32.not_le.mp h41)]; done)
    · refine r_iconst (v := nI 0) dX10_loudNow_44 (by decide) ?_
      refine r_goto (tgt := 60) dX10_loudNow_45 (by decide) ?_
      refine r_iret rfl dX10_loudNow_60 ?_
      refine ⟨congrArg some (congrArg Value.int ?_), F9⟩
      rw [bnd_ref]
      first
        | (rw [if_neg (Int32.not_lt.mpr h41), if_neg (Int32.not_lt.mpr h51)]; done)
        | (rw [if_neg (Int32.not_lt.mpr h41), if_pos (Int32.not_le.mp h51)]; done)
        | (rw [if_pos (Int32.not_le.mp h41)]; done)
set_option maxHeartbeats 8000000 in
set_option maxRecDepth 20000 in
theorem c_isFalling {l : List Nat} {x : XS} (hlo : RLo x 1 l) : MM mX10_isFalling 2 0 0 [.ref 137] x (fun v y => v = some (.int (bI (decide (0 < LV l (x 150))))) ∧ ∀ c, c ≠ 149 → y c = x c) NoT := by
  refine MM.of (by decide) (Nat.le_of_ble_eq_true rfl) ?_
  have y137 := lay_137
  have y148 := lay_148
  have y150 := lay_150
  refine r_aload_n dX10_isFalling_0 rfl (by rfl) ?_
  refine gf_X10_47 rfl dX10_isFalling_1 (by first | assumption | rfl) (by rfl) ?_
  refine r_iconst (v := nI 1) dX10_isFalling_4 (by decide) ?_
  refine r_ialdN dX10_isFalling_5 (by first | assumption | rfl) (by omega) (by decide) ?_
  rcases hlo.2 with ⟨z0, zl⟩ | ⟨zn, zc⟩
  · refine PW.topi z0 ?_
    refine r_if_ne (tgt := 27) dX10_isFalling_6 (by decide) (fun h => absurd (show nI 0 = 0 from rfl) h) (fun _ => ?_)
    refine r_aload_n dX10_isFalling_9 rfl (by rfl) ?_
    refine gf_X10_53 rfl dX10_isFalling_10 (by first | assumption | rfl) (by rfl) ?_
    refine r_iconst (v := nI 4) dX10_isFalling_13 (by decide) ?_
    refine r_ialdN dX10_isFalling_14 (by first | assumption | rfl) (by omega) (by decide) ?_
    refine r_iconst (v := nI 4) dX10_isFalling_15 (by decide) ?_
    refine r_idiv dX10_isFalling_16 (by decide +kernel) ?_
    refine r_aload_n dX10_isFalling_17 rfl (by rfl) ?_
    refine gf_X10_53 rfl dX10_isFalling_18 (by first | assumption | rfl) (by rfl) ?_
    refine r_iconst (v := nI 5) dX10_isFalling_21 (by decide) ?_
    refine r_ialdN dX10_isFalling_22 (by first | assumption | rfl) (by omega) (by decide) ?_
    refine r_isub dX10_isFalling_23 ?_
    refine r_goto (tgt := 32) dX10_isFalling_24 (by decide) ?_
    refine PW.topi (show _ = LV l (x 150) by rw [zl, if_neg (by decide), LV_falls]) ?_
    have F9 : ∀ c, c ≠ 149 → x c = x c := fun _ _ => rfl
    refine r_if_le (tgt := 39) dX10_isFalling_32 (by decide) (fun h32 => ?_) (fun h32 => ?_)
    · refine r_iconst (v := nI 0) dX10_isFalling_39 (by decide) ?_
      refine r_zret rfl (by first | exact bI_01 _ | exact Or.inl rfl | exact Or.inr rfl) dX10_isFalling_40 ?_
      refine ⟨congrArg some (congrArg Value.int ?_), F9⟩
      first
        | (rw [decide_eq_true (Int32.not_le.mp h32)]; rfl)
        | (rw [decide_eq_false (Int32.not_lt.mpr h32)]; rfl)
    · refine r_iconst (v := nI 1) dX10_isFalling_35 (by decide) ?_
      refine r_goto (tgt := 40) dX10_isFalling_36 (by decide) ?_
      refine r_zret rfl (by first | exact bI_01 _ | exact Or.inl rfl | exact Or.inr rfl) dX10_isFalling_40 ?_
      refine ⟨congrArg some (congrArg Value.int ?_), F9⟩
      first
        | (rw [decide_eq_true (Int32.not_le.mp h32)]; rfl)
        | (rw [decide_eq_false (Int32.not_lt.mpr h32)]; rfl)
  · refine PW.topi zn ?_
    refine r_if_ne (tgt := 27) dX10_isFalling_6 (by decide) (fun _ => ?_) (fun h => absurd h (nI_ne0 hlo.1.2.1 (by have := hlo.1.1; omega)))
    refine r_aload_n dX10_isFalling_27 rfl (by rfl) ?_
    refine r_iconst (v := nI 1) dX10_isFalling_28 (by decide) ?_
    refine r_callV (c_valueOf (by decide) hlo.1 zn zc) mv_X10_valueOf ml_X10_290 ⟨by decide, by decide⟩ dX10_isFalling_29 (by first | assumption | rfl) rfl rfl rfl (Nat.le_of_ble_eq_true rfl) (fun v9 y h9 => ?_)
    obtain ⟨rfl, F9⟩ := h9
    refine r_if_le (tgt := 39) dX10_isFalling_32 (by decide) (fun h32 => ?_) (fun h32 => ?_)
    · refine r_iconst (v := nI 0) dX10_isFalling_39 (by decide) ?_
      refine r_zret rfl (by first | exact bI_01 _ | exact Or.inl rfl | exact Or.inr rfl) dX10_isFalling_40 ?_
      refine ⟨congrArg some (congrArg Value.int ?_), F9⟩
      first
        | (rw [decide_eq_true (Int32.not_le.mp h32)]; rfl)
        | (rw [decide_eq_false (Int32.not_lt.mpr h32)]; rfl)
    · refine r_iconst (v := nI 1) dX10_isFalling_35 (by decide) ?_
      refine r_goto (tgt := 40) dX10_isFalling_36 (by decide) ?_
      refine r_zret rfl (by first | exact bI_01 _ | exact Or.inl rfl | exact Or.inr rfl) dX10_isFalling_40 ?_
      refine ⟨congrArg some (congrArg Value.int ?_), F9⟩
      first
        | (rw [decide_eq_true (Int32.not_le.mp h32)]; rfl)
        | (rw [decide_eq_false (Int32.not_lt.mpr h32)]; rfl)
