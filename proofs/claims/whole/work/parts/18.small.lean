/-! HURRY, BOOK, HISTORY, ALBUM -/
def restL (x : XS) (a b : Nat) : Nat → Bool
  | 0 => true
  | c + 1 => restL x a b c && (decide (x 134 (c * 9 + b) ≤ x 134 (a * 9 + b)) && decide (x 135 (a * 9 + c) ≤ x 135 (a * 9 + b)))
theorem restL_f {x : XS} {a b c : Nat} (h : restL x a b c = false) : ∀ j, restL x a b (c + j) = false
  | 0 => h
  | j + 1 => by
    show (restL x a b (c + j) && _) = false
    rw [restL_f h j]
    rfl
theorem restL_e {x : XS} {a b c n : Nat} (h : restL x a b c = false) (hn : c ≤ n) : restL x a b n = false := by
  have := restL_f h (n - c)
  rw [show c + (n - c) = n by omega] at this
  exact this
/-- one pair of choices -/
def frS (y : XS) (a b k : Nat) : XS :=
  if restL y a b (k + 1) then
    (if y 133 2 = 0 then
      let z := xu (xu y 133 3 (nI (100 * a + b))) 133 4 (y 134 (a * 9 + b) + y 135 (a * 9 + b))
      xu z 133 2 (y 133 2 + nI 1)
    else xu y 133 2 (y 133 2 + nI 1))
  else y
def frI (y : XS) (a k : Nat) : Nat → XS
  | 0 => y
  | b + 1 => frS (frI y a k b) a b k
def frO (x : XS) (k : Nat) : Nat → XS
  | 0 => xu (xu (xu x 133 2 (nI 0)) 133 3 (-1)) 133 4 (nI 0)
  | a + 1 => frI (frO x k a) a k (k + 1)
def hasB (f : Nat → Int32) (m : Int32) : Nat → Bool
  | 0 => false
  | i + 1 => hasB f m i || decide (f i = m)
theorem hasB_t {f : Nat → Int32} {m : Int32} {i : Nat} (h : hasB f m i = true) : ∀ j, hasB f m (i + j) = true
  | 0 => h
  | j + 1 => by
    show (hasB f m (i + j) || _) = true
    rw [hasB_t h j]
    rfl
theorem hasB_e {f : Nat → Int32} {m : Int32} {i n : Nat} (h : hasB f m i = true) (hn : i ≤ n) : hasB f m n = true := by
  have := hasB_t h (n - i)
  rw [show i + (n - i) = n by omega] at this
  exact this
def cpR (g f : Nat → Int32) : Nat → Nat → Int32
  | 0 => g
  | i + 1 => upd (cpR g f i) i (f i)
def IsB (c0 : Nat) : Prop := c0 = 33 ∨ c0 = 36
theorem b_o {c0 : Nat} (h : IsB c0) : lay c0 = .inl (1, [some (c0 + 1), some (c0 + 2), none]) := by rcases h with rfl | rfl <;> rfl
theorem b_1 {c0 : Nat} (h : IsB c0) : lay (c0 + 1) = .inr (.inl 8) := by rcases h with rfl | rfl <;> rfl
theorem b_2 {c0 : Nat} (h : IsB c0) : lay (c0 + 2) = .inr (.inl 8) := by rcases h with rfl | rfl <;> rfl
set_option maxHeartbeats 8000000 in
set_option maxRecDepth 20000 in
theorem c_X4_put {a b : Nat} {o1 o2 : Int32} {x : XS} (ha : a < 9) (hb : b < 9) : MM mX4_put 0 0 0 [.ref 133, .int (nI a), .int (nI b), .int o1, .int o2] x (fun v x1 => v = none ∧ x1 = xu (xu x 134 (a * 9 + b) o1) 135 (a * 9 + b) o2) NoT := by
  refine MM.of (by decide) (Nat.le_of_ble_eq_true rfl) ?_
  have y133 := lay_133
  have y134 := lay_134
  have y135 := lay_135
  refine r_iload_n dX4_put_0 rfl (by rfl) ?_
  refine r_bipush (v := nI 9) dX4_put_1 (by decide) ?_
  refine r_imulN dX4_put_3 ?_
  refine r_iload_n dX4_put_4 rfl (by rfl) ?_
  refine r_iaddN dX4_put_5 ?_
  refine r_istore dX4_put_6 (by decide) ?_
  refine r_iload dX4_put_8 (by rfl) ?_
  refine r_if_lt (tgt := 40) dX4_put_10 (by decide) (fun h10 => ?_) (fun h10 => ?_)
  · refine r_ret rfl dX4_put_40 ?_
    first | exact ⟨rfl, rfl⟩ | exact absurd h10 (nI_pos (by omega)) | (exfalso; omega)
  · refine r_iload dX4_put_13 (by rfl) ?_
    refine r_aload_n dX4_put_15 rfl (by rfl) ?_
    refine gf_X4_11 rfl dX4_put_16 (by first | assumption | rfl) (by rfl) ?_
    refine r_alen dX4_put_19 (by first | assumption | rfl) (by decide) rfl ?_
    refine r_icmp_geN (tgt := 40) dX4_put_20 (by decide) (by omega) (by omega) (fun h20 => ?_) (fun h20 => ?_)
    · refine r_ret rfl dX4_put_40 ?_
      first | exact ⟨rfl, rfl⟩ | exact absurd h10 (nI_pos (by omega)) | (exfalso; omega)
    · refine r_aload_n dX4_put_23 rfl (by rfl) ?_
      refine gf_X4_11 rfl dX4_put_24 (by first | assumption | rfl) (by rfl) ?_
      refine r_iload dX4_put_27 (by rfl) ?_
      refine r_iload_n dX4_put_29 rfl (by rfl) ?_
      refine r_iastN dX4_put_30 (by first | assumption | rfl) (by omega) (by decide) ?_
      refine r_aload_n dX4_put_31 rfl (by rfl) ?_
      refine gf_X4_15 rfl dX4_put_32 (by first | assumption | rfl) (by rfl) ?_
      refine r_iload dX4_put_35 (by rfl) ?_
      refine r_iload dX4_put_37 (by rfl) ?_
      refine r_iastN dX4_put_39 (by first | assumption | rfl) (by omega) (by decide) ?_
      refine r_ret rfl dX4_put_40 ?_
      first | exact ⟨rfl, rfl⟩ | exact absurd h10 (nI_pos (by omega)) | (exfalso; omega)
set_option maxHeartbeats 8000000 in
set_option maxRecDepth 20000 in
theorem c_X4_isRest {a b k : Nat} {x : XS} (ha : a < 9) (hb : b < 9) (hk : k < 9) : MM mX4_isRest 0 0 0 [.ref 133, .int (nI a), .int (nI b), .int (nI k)] x (fun v x1 => v = some (.int (bI (restL x a b (k + 1)))) ∧ x1 = x) NoT := by
  refine MM.of (by decide) (Nat.le_of_ble_eq_true rfl) ?_
  have y133 := lay_133
  have y134 := lay_134
  have y135 := lay_135
  refine r_iload_n dX4_isRest_0 rfl (by rfl) ?_
  refine r_bipush (v := nI 9) dX4_isRest_1 (by decide) ?_
  refine r_imulN dX4_isRest_3 ?_
  refine r_iload_n dX4_isRest_4 rfl (by rfl) ?_
  refine r_iaddN dX4_isRest_5 ?_
  refine r_istore dX4_isRest_6 (by decide) ?_
  refine r_iconst (v := nI 0) dX4_isRest_8 (by decide) ?_
  refine r_istore dX4_isRest_9 (by decide) ?_
  refine PW.loop (σ := Nat) (fun c => k + 1 - c) (fun c => c ≤ k + 1 ∧ restL x a b c = true) (fun c => [(0, .ref 133), (1, .int (nI a)), (2, .int (nI b)), (3, .int (nI k)), (4, .int (nI (a * 9 + b))), (5, .int (nI c))]) (fun _ => x) (0) (⟨Nat.zero_le _, rfl⟩) rfl rfl (fun c hc ch => ?_)
  have hc1 := hc.1
  refine r_iload dX4_isRest_11 (by rfl) ?_
  refine r_iload_n dX4_isRest_13 rfl (by rfl) ?_
  refine r_icmp_gtN (tgt := 78) dX4_isRest_14 (by decide) (by omega) (by omega) (fun h14 => ?_) (fun h14 => ?_)
  · refine r_iconst (v := nI 1) dX4_isRest_78 (by decide) ?_
    refine r_zret rfl (by first | exact bI_01 _ | exact Or.inl rfl | exact Or.inr rfl) dX4_isRest_79 ?_
    have e : c = k + 1 := by omega
    subst e
    exact ⟨by rw [hc.2]; rfl, rfl⟩
  · refine r_iload dX4_isRest_17 (by rfl) ?_
    refine r_bipush (v := nI 9) dX4_isRest_19 (by decide) ?_
    refine r_icmp_geN (tgt := 78) dX4_isRest_21 (by decide) (by omega) (by omega) (fun h21 => ?_) (fun h21 => ?_)
    · refine r_iconst (v := nI 1) dX4_isRest_78 (by decide) ?_
      refine r_zret rfl (by first | exact bI_01 _ | exact Or.inl rfl | exact Or.inr rfl) dX4_isRest_79 ?_
      have e : c = k + 1 := by omega
      subst e
      exact ⟨by rw [hc.2]; rfl, rfl⟩
    · refine r_aload_n dX4_isRest_24 rfl (by rfl) ?_
      refine gf_X4_11 rfl dX4_isRest_25 (by first | assumption | rfl) (by rfl) ?_
      refine r_iload dX4_isRest_28 (by rfl) ?_
      refine r_bipush (v := nI 9) dX4_isRest_30 (by decide) ?_
      refine r_imulN dX4_isRest_32 ?_
      refine r_iload_n dX4_isRest_33 rfl (by rfl) ?_
      refine r_iaddN dX4_isRest_34 ?_
      refine r_ialdN dX4_isRest_35 (by first | assumption | rfl) (by omega) (by decide) ?_
      refine r_aload_n dX4_isRest_36 rfl (by rfl) ?_
      refine gf_X4_11 rfl dX4_isRest_37 (by first | assumption | rfl) (by rfl) ?_
      refine r_iload dX4_isRest_40 (by rfl) ?_
      refine r_ialdN dX4_isRest_42 (by first | assumption | rfl) (by omega) (by decide) ?_
      refine r_icmp_le (tgt := 48) dX4_isRest_43 (by decide) (fun h43 => ?_) (fun h43 => ?_)
      · refine r_aload_n dX4_isRest_48 rfl (by rfl) ?_
        refine gf_X4_15 rfl dX4_isRest_49 (by first | assumption | rfl) (by rfl) ?_
        refine r_iload_n dX4_isRest_52 rfl (by rfl) ?_
        refine r_bipush (v := nI 9) dX4_isRest_53 (by decide) ?_
        refine r_imulN dX4_isRest_55 ?_
        refine r_iload dX4_isRest_56 (by rfl) ?_
        refine r_iaddN dX4_isRest_58 ?_
        refine r_ialdN dX4_isRest_59 (by first | assumption | rfl) (by omega) (by decide) ?_
        refine r_aload_n dX4_isRest_60 rfl (by rfl) ?_
        refine gf_X4_15 rfl dX4_isRest_61 (by first | assumption | rfl) (by rfl) ?_
        refine r_iload dX4_isRest_64 (by rfl) ?_
        refine r_ialdN dX4_isRest_66 (by first | assumption | rfl) (by omega) (by decide) ?_
        refine r_icmp_le (tgt := 72) dX4_isRest_67 (by decide) (fun h67 => ?_) (fun h67 => ?_)
        · refine r_iincN dX4_isRest_72 (by rfl) (by decide) ?_
          refine r_goto (tgt := 11) dX4_isRest_75 (by decide) ?_
          have e : restL x a b (c + 1) = true := by
            show (restL x a b c && (_ && _)) = true
            rw [hc.2, decide_eq_true h43, decide_eq_true h67]
            rfl
          exact PW.lc (by rfl) rfl (ch (c + 1) ⟨by omega, e⟩ (by omega))
        · refine r_iconst (v := nI 0) dX4_isRest_70 (by decide) ?_
          refine r_zret rfl (by first | exact bI_01 _ | exact Or.inl rfl | exact Or.inr rfl) dX4_isRest_71 ?_
          refine ⟨?_, rfl⟩
          have e : restL x a b (c + 1) = false := by
            show (restL x a b c && (_ && _)) = false
            first
              | (rw [decide_eq_false h43]; simp)
              | (rw [decide_eq_false h67]; simp)
          rw [restL_e e (by omega)]
          rfl
      · refine r_iconst (v := nI 0) dX4_isRest_46 (by decide) ?_
        refine r_zret rfl (by first | exact bI_01 _ | exact Or.inl rfl | exact Or.inr rfl) dX4_isRest_47 ?_
        refine ⟨?_, rfl⟩
        have e : restL x a b (c + 1) = false := by
          show (restL x a b c && (_ && _)) = false
          first
            | (rw [decide_eq_false h43]; simp)
            | (rw [decide_eq_false h67]; simp)
        rw [restL_e e (by omega)]
        rfl
set_option maxHeartbeats 8000000 in
set_option maxRecDepth 20000 in
theorem c_X4_findRests {k : Nat} {x : XS} (hk : k < 9) : MM mX4_findRests 1 0 0 [.ref 133, .int (nI k)] x (fun v x1 => v = none ∧ x1 = frO x k (k + 1)) NoT := by
  refine MM.of (by decide) (Nat.le_of_ble_eq_true rfl) ?_
  have y133 := lay_133
  have y134 := lay_134
  have y135 := lay_135
  refine r_aload_n dX4_findRests_0 rfl (by rfl) ?_
  refine r_iconst (v := nI 0) dX4_findRests_1 (by decide) ?_
  refine pf_X4_18 rfl dX4_findRests_2 (by first | assumption | rfl) (by rfl) ?_
  refine r_aload_n dX4_findRests_5 rfl (by rfl) ?_
  refine r_iconst (v := -1) dX4_findRests_6 (by decide) ?_
  refine pf_X4_22 rfl dX4_findRests_7 (by first | assumption | rfl) (by rfl) ?_
  refine r_aload_n dX4_findRests_10 rfl (by rfl) ?_
  refine r_iconst (v := nI 0) dX4_findRests_11 (by decide) ?_
  refine pf_X4_25 rfl dX4_findRests_12 (by first | assumption | rfl) (by rfl) ?_
  refine r_iconst (v := nI 0) dX4_findRests_15 (by decide) ?_
  refine r_istore_n dX4_findRests_16 rfl (by decide) ?_
  refine PW.loop (σ := Nat) (fun a => k + 1 - a) (fun a => a ≤ k + 1) (fun a => [(0, .ref 133), (1, .int (nI k)), (2, .int (nI a))]) (fun a => frO x k a) (0) (Nat.zero_le _) rfl rfl (fun a ha ah => ?_)
  refine r_iload_n dX4_findRests_17 rfl (by rfl) ?_
  refine r_iload_n dX4_findRests_18 rfl (by rfl) ?_
  refine r_icmp_gtN (tgt := 120) dX4_findRests_19 (by decide) (by omega) (by omega) (fun h19 => ?_) (fun h19 => ?_)
  · refine r_ret rfl dX4_findRests_120 ?_
    have e : a = k + 1 := by omega
    subst e
    exact ⟨rfl, rfl⟩
  · refine r_iload_n dX4_findRests_22 rfl (by rfl) ?_
    refine r_bipush (v := nI 9) dX4_findRests_23 (by decide) ?_
    refine r_icmp_geN (tgt := 120) dX4_findRests_25 (by decide) (by omega) (by omega) (fun h25 => ?_) (fun h25 => ?_)
    · refine r_ret rfl dX4_findRests_120 ?_
      have e : a = k + 1 := by omega
      subst e
      exact ⟨rfl, rfl⟩
    · refine r_iconst (v := nI 0) dX4_findRests_28 (by decide) ?_
      refine r_istore_n dX4_findRests_29 rfl (by decide) ?_
      refine PW.loop (σ := Nat) (fun b => k + 1 - b) (fun b => b ≤ k + 1) (fun b => [(0, .ref 133), (1, .int (nI k)), (2, .int (nI a)), (3, .int (nI b))]) (fun b => frI (frO x k a) a k b) (0) (Nat.zero_le _) rfl rfl (fun b hb bh => ?_)
      refine r_iload_n dX4_findRests_30 rfl (by rfl) ?_
      refine r_iload_n dX4_findRests_31 rfl (by rfl) ?_
      refine r_icmp_gtN (tgt := 114) dX4_findRests_32 (by decide) (by omega) (by omega) (fun h32 => ?_) (fun h32 => ?_)
      · refine r_iincN dX4_findRests_114 (by rfl) (by decide) ?_
        refine r_goto (tgt := 17) dX4_findRests_117 (by decide) ?_
        exact PW.lc (by rfl) (by rw [show b = k + 1 by omega]; rfl) (ah (a + 1) (by omega) (by omega))
      · refine r_iload_n dX4_findRests_35 rfl (by rfl) ?_
        refine r_bipush (v := nI 9) dX4_findRests_36 (by decide) ?_
        refine r_icmp_geN (tgt := 114) dX4_findRests_38 (by decide) (by omega) (by omega) (fun h38 => ?_) (fun h38 => ?_)
        · refine r_iincN dX4_findRests_114 (by rfl) (by decide) ?_
          refine r_goto (tgt := 17) dX4_findRests_117 (by decide) ?_
          exact PW.lc (by rfl) (by rw [show b = k + 1 by omega]; rfl) (ah (a + 1) (by omega) (by omega))
        · refine r_aload_n dX4_findRests_41 rfl (by rfl) ?_
          refine r_iload_n dX4_findRests_42 rfl (by rfl) ?_
          refine r_iload_n dX4_findRests_43 rfl (by rfl) ?_
          refine r_iload_n dX4_findRests_44 rfl (by rfl) ?_
          refine r_callV (c_X4_isRest (by omega) (by omega) (by omega)) mv_X4_isRest ml_X4_28 ⟨by decide, by decide⟩ dX4_findRests_45 (by first | assumption | rfl) rfl rfl rfl (Nat.le_of_ble_eq_true rfl) (fun v9 x9 h9 => ?_)
          obtain ⟨rfl, h9⟩ := h9
          refine PW.xeq h9 ?_
          clear h9 x9
          refine r_if_neB (tgt := 54) dX4_findRests_48 (by decide) (fun h48 => ?_) (fun h48 => ?_)
          · refine r_aload_n dX4_findRests_54 rfl (by rfl) ?_
            refine gf_X4_18 rfl dX4_findRests_55 (by first | assumption | rfl) (by rfl) ?_
            refine r_if_ne (tgt := 98) dX4_findRests_58 (by decide) (fun h58 => ?_) (fun h58 => ?_)
            · refine r_aload_n dX4_findRests_98 rfl (by rfl) ?_
              refine r_dup dX4_findRests_99 rfl ?_
              refine gf_X4_18 rfl dX4_findRests_100 (by first | assumption | rfl) (by rfl) ?_
              refine r_iconst (v := nI 1) dX4_findRests_103 (by decide) ?_
              refine r_iadd dX4_findRests_104 ?_
              refine pf_X4_18 rfl dX4_findRests_105 (by first | assumption | rfl) (by rfl) ?_
              have e : frI (frO x k a) a k (b + 1) = frS (frI (frO x k a) a k b) a b k := rfl
              unfold frS at e
              rw [h48] at e
              first
                | (rw [if_neg (by decide)] at e; refine PW.xeq e.symm ?_)
                | (rw [if_pos rfl, if_pos h58] at e; refine PW.xeq e.symm ?_)
                | (rw [if_pos rfl, if_neg h58] at e; refine PW.xeq e.symm ?_)
              refine r_iincN dX4_findRests_108 (by rfl) (by decide) ?_
              refine r_goto (tgt := 30) dX4_findRests_111 (by decide) ?_
              exact PW.lc (by rfl) rfl (bh (b + 1) (by omega) (by omega))
            · refine r_iload_n dX4_findRests_61 rfl (by rfl) ?_
              refine r_bipush (v := nI 9) dX4_findRests_62 (by decide) ?_
              refine r_imulN dX4_findRests_64 ?_
              refine r_iload_n dX4_findRests_65 rfl (by rfl) ?_
              refine r_iaddN dX4_findRests_66 ?_
              refine r_istore dX4_findRests_67 (by decide) ?_
              refine r_aload_n dX4_findRests_69 rfl (by rfl) ?_
              refine r_bipush (v := nI 100) dX4_findRests_70 (by decide) ?_
              refine r_iload_n dX4_findRests_72 rfl (by rfl) ?_
              refine r_imulN dX4_findRests_73 ?_
              refine r_iload_n dX4_findRests_74 rfl (by rfl) ?_
              refine r_iaddN dX4_findRests_75 ?_
              refine pf_X4_22 rfl dX4_findRests_76 (by first | assumption | rfl) (by rfl) ?_
              refine r_aload_n dX4_findRests_79 rfl (by rfl) ?_
              refine r_aload_n dX4_findRests_80 rfl (by rfl) ?_
              refine gf_X4_11 rfl dX4_findRests_81 (by first | assumption | rfl) (by rfl) ?_
              refine r_iload dX4_findRests_84 (by rfl) ?_
              refine r_ialdN dX4_findRests_86 (by first | assumption | rfl) (by omega) (by decide) ?_
              refine r_aload_n dX4_findRests_87 rfl (by rfl) ?_
              refine gf_X4_15 rfl dX4_findRests_88 (by first | assumption | rfl) (by rfl) ?_
              refine r_iload dX4_findRests_91 (by rfl) ?_
              refine r_ialdN dX4_findRests_93 (by first | assumption | rfl) (by omega) (by decide) ?_
              refine r_iadd dX4_findRests_94 ?_
              refine pf_X4_25 rfl dX4_findRests_95 (by first | assumption | rfl) (by rfl) ?_
              refine r_aload_n dX4_findRests_98 rfl (by rfl) ?_
              refine r_dup dX4_findRests_99 rfl ?_
              refine gf_X4_18 rfl dX4_findRests_100 (by first | assumption | rfl) (by rfl) ?_
              refine r_iconst (v := nI 1) dX4_findRests_103 (by decide) ?_
              refine r_iadd dX4_findRests_104 ?_
              refine pf_X4_18 rfl dX4_findRests_105 (by first | assumption | rfl) (by rfl) ?_
              have e : frI (frO x k a) a k (b + 1) = frS (frI (frO x k a) a k b) a b k := rfl
              unfold frS at e
              rw [h48] at e
              first
                | (rw [if_neg (by decide)] at e; refine PW.xeq e.symm ?_)
                | (rw [if_pos rfl, if_pos h58] at e; refine PW.xeq e.symm ?_)
                | (rw [if_pos rfl, if_neg h58] at e; refine PW.xeq e.symm ?_)
              refine r_iincN dX4_findRests_108 (by rfl) (by decide) ?_
              refine r_goto (tgt := 30) dX4_findRests_111 (by decide) ?_
              exact PW.lc (by rfl) rfl (bh (b + 1) (by omega) (by omega))
          · refine r_goto (tgt := 108) dX4_findRests_51 (by decide) ?_
            have e : frI (frO x k a) a k (b + 1) = frS (frI (frO x k a) a k b) a b k := rfl
            unfold frS at e
            rw [h48] at e
            first
              | (rw [if_neg (by decide)] at e; refine PW.xeq e.symm ?_)
              | (rw [if_pos rfl, if_pos h58] at e; refine PW.xeq e.symm ?_)
              | (rw [if_pos rfl, if_neg h58] at e; refine PW.xeq e.symm ?_)
            refine r_iincN dX4_findRests_108 (by rfl) (by decide) ?_
            refine r_goto (tgt := 30) dX4_findRests_111 (by decide) ?_
            exact PW.lc (by rfl) rfl (bh (b + 1) (by omega) (by omega))
set_option maxHeartbeats 8000000 in
set_option maxRecDepth 20000 in
theorem c_X1_has {c0 s : Nat} {mv : Int32} {x : XS} (hB : IsB c0) (hs : x c0 2 = nI s) (hs8 : s ≤ 8) : MM mX1_has 0 0 0 [.ref c0, .int mv] x (fun v x1 => v = some (.int (bI (hasB (x (c0 + 1)) mv s))) ∧ x1 = x) NoT := by
  refine MM.of (by decide) (Nat.le_of_ble_eq_true rfl) ?_
  have b0 := b_o hB
  have b1 := b_1 hB
  have b2 := b_2 hB
  refine r_iconst (v := nI 0) dX1_has_0 (by decide) ?_
  refine r_istore_n dX1_has_1 rfl (by decide) ?_
  refine PW.loop (σ := Nat) (fun i => s - i) (fun i => i ≤ s ∧ hasB (x (c0 + 1)) mv i = false) (fun i => [(0, .ref c0), (1, .int mv), (2, .int (nI i))]) (fun _ => x) (0) (⟨Nat.zero_le _, rfl⟩) rfl rfl (fun i hi ih => ?_)
  have hi1 := hi.1
  refine r_iload_n dX1_has_2 rfl (by rfl) ?_
  refine r_aload_n dX1_has_3 rfl (by rfl) ?_
  refine gf_X1_18 rfl dX1_has_4 (by first | assumption | rfl) (by rfl) ?_
  refine PW.topi hs ?_
  refine r_icmp_geN (tgt := 28) dX1_has_7 (by decide) (by omega) (by omega) (fun h7 => ?_) (fun h7 => ?_)
  · refine r_iconst (v := nI 0) dX1_has_28 (by decide) ?_
    refine r_zret rfl (by first | exact bI_01 _ | exact Or.inl rfl | exact Or.inr rfl) dX1_has_29 ?_
    have e : i = s := by omega
    subst e
    exact ⟨by rw [hi.2]; rfl, rfl⟩
  · refine r_aload_n dX1_has_10 rfl (by rfl) ?_
    refine gf_X1_11 rfl dX1_has_11 (by first | assumption | rfl) (by rfl) ?_
    refine r_iload_n dX1_has_14 rfl (by rfl) ?_
    refine r_ialdN dX1_has_15 (by first | assumption | rfl) (by omega) (by decide) ?_
    refine r_iload_n dX1_has_16 rfl (by rfl) ?_
    refine r_icmp_ne (tgt := 22) dX1_has_17 (by decide) (fun h17 => ?_) (fun h17 => ?_)
    · refine r_iincN dX1_has_22 (by rfl) (by decide) ?_
      refine r_goto (tgt := 2) dX1_has_25 (by decide) ?_
      exact PW.lc (by rfl) rfl (ih (i + 1) ⟨by omega, by show (hasB (x (c0 + 1)) mv i || decide _) = false; rw [hi.2, decide_eq_false h17]; rfl⟩ (by omega))
    · refine r_iconst (v := nI 1) dX1_has_20 (by decide) ?_
      refine r_zret rfl (by first | exact bI_01 _ | exact Or.inl rfl | exact Or.inr rfl) dX1_has_21 ?_
      refine ⟨?_, rfl⟩
      rw [hasB_e (i := i + 1) (by show (hasB _ mv i || decide _) = true; rw [decide_eq_true h17]; simp) (by omega)]
      rfl
def bookX (x : XS) (i : Nat) : XS := xr (xr (xu x 33 2 (x 36 2)) 34 (cpR (x 34) (x 37) i)) 35 (cpR (x 35) (x 38) i)
theorem bookX_s (x : XS) (i : Nat) : xu (xu (bookX x i) 34 i (x 37 i)) 35 i (x 38 i) = bookX x (i + 1) := by
  funext j
  unfold bookX xu
  by_cases h35 : j = 35
  · subst h35; rfl
  · rw [xr_n h35, xr_n h35]
    by_cases h34 : j = 34
    · subst h34; rfl
    · rw [xr_n h34, xr_n h35, xr_n h34, xr_n h34]
theorem bookX_0 (x : XS) : xu x 33 2 (x 36 2) = bookX x 0 := by
  unfold bookX
  show _ = xr (xr _ 34 (x 34)) 35 (x 35)
  have e1 : xr (xu x 33 2 (x 36 2)) 34 (x 34) = xu x 33 2 (x 36 2) := xr_id (xu x 33 2 (x 36 2)) 34
  rw [e1]
  exact (xr_id (xu x 33 2 (x 36 2)) 35).symm
set_option maxHeartbeats 8000000 in
set_option maxRecDepth 20000 in
theorem c_X1_copy {x : XS} : MM mX1_copy 0 0 0 [.ref 33, .ref 36] x (fun v x1 => v = none ∧ x1 = bookX x 8) NoT := by
  refine MM.of (by decide) (Nat.le_of_ble_eq_true rfl) ?_
  have y33 := lay_33
  have y34 := lay_34
  have y35 := lay_35
  have y36 := lay_36
  have y37 := lay_37
  have y38 := lay_38
  refine r_aload_n dX1_copy_0 rfl (by rfl) ?_
  refine r_aload_n dX1_copy_1 rfl (by rfl) ?_
  refine gf_X1_18 rfl dX1_copy_2 (by first | assumption | rfl) (by rfl) ?_
  refine pf_X1_18 rfl dX1_copy_5 (by first | assumption | rfl) (by rfl) ?_
  refine r_iconst (v := nI 0) dX1_copy_8 (by decide) ?_
  refine r_istore_n dX1_copy_9 rfl (by decide) ?_
  refine PW.loop (σ := Nat) (fun i => 8 - i) (fun i => i ≤ 8) (fun i => [(0, .ref 33), (1, .ref 36), (2, .int (nI i))]) (fun i => bookX x i) (0) (Nat.zero_le _) rfl (bookX_0 x) (fun i hi ih => ?_)
  refine r_iload_n dX1_copy_10 rfl (by rfl) ?_
  refine r_bipush (v := nI 8) dX1_copy_11 (by decide) ?_
  refine r_icmp_geN (tgt := 46) dX1_copy_13 (by decide) (by omega) (by omega) (fun h13 => ?_) (fun h13 => ?_)
  · refine r_ret rfl dX1_copy_46 ?_
    have e : i = 8 := by omega
    subst e
    exact ⟨rfl, rfl⟩
  · refine r_aload_n dX1_copy_16 rfl (by rfl) ?_
    refine gf_X1_11 rfl dX1_copy_17 (by first | assumption | rfl) (by rfl) ?_
    refine r_iload_n dX1_copy_20 rfl (by rfl) ?_
    refine r_aload_n dX1_copy_21 rfl (by rfl) ?_
    refine gf_X1_11 rfl dX1_copy_22 (by first | assumption | rfl) (by rfl) ?_
    refine r_iload_n dX1_copy_25 rfl (by rfl) ?_
    refine r_ialdN dX1_copy_26 (by first | assumption | rfl) (by omega) (by decide) ?_
    refine r_iastN dX1_copy_27 (by first | assumption | rfl) (by omega) (by decide) ?_
    refine r_aload_n dX1_copy_28 rfl (by rfl) ?_
    refine gf_X1_15 rfl dX1_copy_29 (by first | assumption | rfl) (by rfl) ?_
    refine r_iload_n dX1_copy_32 rfl (by rfl) ?_
    refine r_aload_n dX1_copy_33 rfl (by rfl) ?_
    refine gf_X1_15 rfl dX1_copy_34 (by first | assumption | rfl) (by rfl) ?_
    refine r_iload_n dX1_copy_37 rfl (by rfl) ?_
    refine r_ialdN dX1_copy_38 (by first | assumption | rfl) (by omega) (by decide) ?_
    refine r_iastN dX1_copy_39 (by first | assumption | rfl) (by omega) (by decide) ?_
    refine r_iincN dX1_copy_40 (by rfl) (by decide) ?_
    refine r_goto (tgt := 10) dX1_copy_43 (by decide) ?_
    exact PW.lc (by rfl) (bookX_s x i) (ih (i + 1) (by omega) (by omega))
