/-! THE REFERENCE: in turns -/
theorem xu_self {x : XS} {c k : Nat} {v : Int32} (h : x c k = v) : xu x c k v = x := by
  subst h
  funext j
  by_cases e : j = c
  · subst e
    funext i
    by_cases e2 : i = k
    · subst e2; exact xu_s
    · exact xu_k e2
  · exact xu_n e
def tK (F : Nat → Nat → Nat → Nat) (left c d least best : Nat) : Nat → Nat
  | 0 => best
  | k + 1 => F (left - k) (min (8 * d - c * k) least) (tK F left c d least best k)
def tO (E : NE) (sv d : Nat) : Nat → Nat → Nat → Nat → Nat → Nat
  | 0, _, left, least, best => if left = 0 ∧ best < least then least else best
  | r + 1, p, left, least, best => if sv / 2 ^ p % 2 = 0 then tO E sv d r (p + 1) left least best else tK (tO E sv d r (p + 1)) left (csN E p) d least best (left + 1)
theorem tK_le {F : Nat → Nat → Nat → Nat} {left c d least best : Nat} (hF : ∀ a b e, F a b e ≤ max e b) : ∀ k, tK F left c d least best k ≤ max best least
  | 0 => Nat.le_max_left _ _
  | k + 1 => by
    have ih := tK_le (left := left) (c := c) (d := d) (least := least) (best := best) hF k
    have h := hF (left - k) (min (8 * d - c * k) least) (tK F left c d least best k)
    show F _ _ _ ≤ _
    omega
theorem tO_le {E : NE} {sv d : Nat} : ∀ r p a b e, tO E sv d r p a b e ≤ max e b
  | 0, p, a, b, e => by
    unfold tO
    split <;> omega
  | r + 1, p, a, b, e => by
    unfold tO
    split
    · exact tO_le r (p + 1) a b e
    · exact tK_le (tO_le r (p + 1)) _
theorem has_eq {d k c : Nat} (hk : k ≤ d) (hc : c ≤ 8) : 8 * (d - k) + (8 - c) * k = 8 * d - c * k := by
  have h1 : (8 - c) * k + c * k = 8 * k := by rw [← Nat.add_mul, Nat.sub_add_cancel hc]
  omega
def cpN (E : NE) (d L p : Nat) : Nat := if csN E p = 0 then d else min d ((8 * d - L) / csN E p)
def cpS (E : NE) (sv d L : Nat) : Nat → Nat → Nat
  | 0, _ => 0
  | r + 1, p => (if sv / 2 ^ p % 2 = 0 then 0 else cpN E d L p) + cpS E sv d L r (p + 1)
theorem cpS_n {E : NE} {sv d L : Nat} : ∀ r p, ntN E sv d L p + cpS E sv d L r p = ntN E sv d L (p + r)
  | 0, p => rfl
  | r + 1, p => by
    have ih := cpS_n (E := E) (sv := sv) (d := d) (L := L) r (p + 1)
    rw [show p + (r + 1) = p + 1 + r by omega, ← ih]
    show _ + ((if sv / 2 ^ p % 2 = 0 then 0 else cpN E d L p) + _) = (if sv / 2 ^ p % 2 = 0 then ntN E sv d L p else ntN E sv d L p + cpN E d L p) + _
    split <;> omega
theorem tK_iff {F : Nat → Nat → Nat → Nat} {left c d least best L C : Nat} (hF : ∀ a b e, a ≤ d → (L ≤ F a b e ↔ L ≤ e ∨ (L ≤ b ∧ a ≤ C))) (hl : left ≤ d) : ∀ k, (L ≤ tK F left c d least best k ↔ L ≤ best ∨ ∃ j, j < k ∧ L ≤ 8 * d - c * j ∧ L ≤ least ∧ left - j ≤ C)
  | 0 => ⟨Or.inl, fun h => h.elim id (fun ⟨_, h, _⟩ => absurd h (Nat.not_lt_zero _))⟩
  | k + 1 => by
    have ih := tK_iff (left := left) (c := c) (d := d) (least := least) (best := best) hF hl k
    show L ≤ F _ _ _ ↔ _
    rw [hF _ _ _ (by omega), ih]
    constructor
    · rintro ((h | ⟨j, h1, h2⟩) | ⟨h1, h2⟩)
      · exact Or.inl h
      · exact Or.inr ⟨j, by omega, h2⟩
      · exact Or.inr ⟨k, by omega, by omega, by omega, h2⟩
    · rintro (h | ⟨j, h1, h2, h3, h4⟩)
      · exact Or.inl (Or.inl h)
      · by_cases e : j = k
        · subst e
          exact Or.inr ⟨by omega, h4⟩
        · exact Or.inl (Or.inr ⟨j, by omega, h2, h3, h4⟩)
theorem cp_iff {E : NE} {d L left least C p : Nat} (hL : 1 ≤ L) (hL8 : L ≤ 8 * d) (hl : left ≤ d) : (∃ j, j < left + 1 ∧ L ≤ 8 * d - csN E p * j ∧ L ≤ least ∧ left - j ≤ C) ↔ (L ≤ least ∧ left ≤ cpN E d L p + C) := by
  unfold cpN
  generalize csN E p = c
  constructor
  · rintro ⟨j, h1, h2, h3, h4⟩
    refine ⟨h3, ?_⟩
    split
    · omega
    · rename_i hc
      have : j ≤ (8 * d - L) / c := (Nat.le_div_iff_mul_le (by omega)).mpr (by rw [Nat.mul_comm]; omega)
      omega
  · rintro ⟨h1, h2⟩
    split at h2
    · rename_i hc
      subst hc
      exact ⟨left, by omega, by omega, h1, by omega⟩
    · rename_i hc
      refine ⟨min left ((8 * d - L) / c), by omega, ?_, h1, by omega⟩
      have e1 : c * ((8 * d - L) / c) ≤ 8 * d - L := Nat.mul_div_le _ _
      have e2 : c * min left ((8 * d - L) / c) ≤ c * ((8 * d - L) / c) := Nat.mul_le_mul_left _ (Nat.min_le_right _ _)
      omega
theorem tO_iff {E : NE} {sv d L : Nat} (hL : 1 ≤ L) (hL8 : L ≤ 8 * d) : ∀ r p a b e, a ≤ d → (L ≤ tO E sv d r p a b e ↔ L ≤ e ∨ (L ≤ b ∧ a ≤ cpS E sv d L r p))
  | 0, p, a, b, e, ha => by
    unfold tO cpS
    split <;> omega
  | r + 1, p, a, b, e, ha => by
    have ih := tO_iff (E := E) (sv := sv) hL hL8 r (p + 1)
    unfold tO cpS
    split
    · rw [ih a b e ha, Nat.zero_add]
    · rw [tK_iff ih ha, cp_iff hL hL8 ha]
theorem tK_8 {F : Nat → Nat → Nat → Nat} {left c d least best : Nat} (hF : ∀ a b e, F a b e ≤ max e b) : ∀ k, tK F left c d least best k ≤ max best (8 * d)
  | 0 => Nat.le_max_left _ _
  | k + 1 => by
    have ih := tK_8 (left := left) (c := c) (d := d) (least := least) (best := best) hF k
    have h := hF (left - k) (min (8 * d - c * k) least) (tK F left c d least best k)
    show F _ _ _ ≤ _
    omega
theorem tO_8 {E : NE} {sv d : Nat} : ∀ r p a b e, (∃ q, p ≤ q ∧ q < p + r ∧ sv / 2 ^ q % 2 ≠ 0) → tO E sv d r p a b e ≤ max e (8 * d)
  | 0, p, a, b, e, h => by
    obtain ⟨q, h1, h2, _⟩ := h
    omega
  | r + 1, p, a, b, e, h => by
    unfold tO
    split
    · rename_i h0
      obtain ⟨q, h1, h2, h3⟩ := h
      refine tO_8 r (p + 1) a b e ⟨q, ?_, by omega, h3⟩
      by_cases e9 : q = p
      · subst e9; exact absurd h0 h3
      · omega
    · exact tK_8 (tO_le r (p + 1)) _
theorem tn_is {E : NE} {sv d T : Nat} (h : ∀ L, 1 ≤ L → L ≤ 8 * d → (L ≤ T ↔ d ≤ ntN E sv d L (eN E))) : ∀ M, M ≤ 8 * d → T ≤ M → tnF E sv d M = nI T
  | 0, _, hT => by rw [show T = 0 by omega]; rfl
  | M + 1, hM, hT => by
    have h1 := h (M + 1) (by omega) hM
    unfold tnF
    split
    · exact tn_is h M (by omega) (by omega)
    · rw [show T = M + 1 by omega]
theorem sv_bit {sv n : Nat} (hn : n ≤ 5) (hs : sv < 2 ^ n) (h2 : 2 ≤ pcN sv) : ∃ q, 0 ≤ q ∧ q < 0 + n ∧ sv / 2 ^ q % 2 ≠ 0 := by
  have key : ∀ n, n < 6 → ∀ sv, sv < 32 → sv < 2 ^ n → 2 ≤ pcN sv → ∃ q, q < n ∧ sv / 2 ^ q % 2 ≠ 0 := by decide +kernel
  have h5 : 2 ^ n ≤ 2 ^ 5 := Nat.pow_le_pow_right (by decide) hn
  obtain ⟨q, h1, h3⟩ := key n (by omega) sv (by omega) hs h2
  exact ⟨q, Nat.zero_le _, by omega, h3⟩
theorem tO_tn {E : NE} {sv d B : Nat} (hn : eN E ≤ 5) (hs : sv < 2 ^ eN E) (h2 : 2 ≤ pcN sv) (hB : 8 * d ≤ B) : tnF E sv d (8 * d) = nI (tO E sv d (eN E) 0 d B 0) := by
  refine tn_is (fun L h1 h8 => ?_) (8 * d) (Nat.le_refl _) ?_
  · rw [tO_iff h1 h8 _ _ _ _ _ (Nat.le_refl _)]
    have e := cpS_n (E := E) (sv := sv) (d := d) (L := L) (eN E) 0
    have e0 : ntN E sv d L 0 = 0 := rfl
    rw [Nat.zero_add] at e
    omega
  · have := tO_8 (E := E) (d := d) (eN E) 0 d B 0 (sv_bit hn hs h2)
    omega
def TC (E : NE) (sv d r : Nat) : Prop := ∀ p left least best (x : XS), p + r = eN E → x 137 18 = nI (eN E) → (∀ p, p < eN E → ∃ k, k ≤ 240 ∧ x 142 (8 * p + 7) = nI k ∧ csN E p = k / 60) → left ≤ d → least < 2 ^ 31 → best < 2 ^ 31 → x 137 47 = nI best → MM mX10_turnsOn r 0 0 [.ref 137, .int (nI p), .int (nI sv), .int (nI left), .int (nI d), .int (nI least)] x (fun v y => v = none ∧ y = xu x 137 47 (nI (tO E sv d r p left least best))) NoT
set_option maxHeartbeats 8000000 in
set_option maxRecDepth 20000 in
theorem n_turns0 {E : NE} {sv d p left least best : Nat} {x : XS} (hs : sv < 32) (hd : d ≤ 12) (hn5 : eN E ≤ 5) (hp : p + 0 = eN E) (hn : x 137 18 = nI (eN E)) (hr : ∀ p, p < eN E → ∃ k, k ≤ 240 ∧ x 142 (8 * p + 7) = nI k ∧ csN E p = k / 60) (hl : left ≤ d) (hle : least < 2 ^ 31) (hb2 : best < 2 ^ 31) (hb : x 137 47 = nI best) : MM mX10_turnsOn 0 0 0 [.ref 137, .int (nI p), .int (nI sv), .int (nI left), .int (nI d), .int (nI least)] x (fun v y => v = none ∧ y = xu x 137 47 (nI (tO E sv d 0 p left least best))) NoT := by
  refine MM.of (by decide) (Nat.le_of_ble_eq_true rfl) ?_
  have y137 := lay_137
  refine r_iload_n dX10_turnsOn_0 rfl (by rfl) ?_
  refine r_aload_n dX10_turnsOn_1 rfl (by rfl) ?_
  refine gf_X10_156 rfl dX10_turnsOn_2 (by first | assumption | rfl) (by rfl) ?_
  refine PW.topi hn ?_
  refine r_icmp_neN (tgt := 28) dX10_turnsOn_5 (by decide) (by omega) (by omega) (fun h5 => ?_) (fun h5 => ?_)
  · exfalso
    omega
  · refine r_iload_n dX10_turnsOn_8 rfl (by rfl) ?_
    refine r_if_ne (tgt := 27) dX10_turnsOn_9 (by decide) (fun h9 => ?_) (fun h9 => ?_)
    · refine r_ret rfl dX10_turnsOn_27 ?_
      refine ⟨rfl, ?_⟩
      unfold tO
      first
        | (rw [if_pos ⟨by
             by_cases e : left = 0
             · exact e
             · exact absurd h9 (nI_ne0 (by omega) (by omega)), by omega⟩]; done)
        | (rw [if_neg (by omega)]; exact (xu_self hb).symm)
        | (rw [if_neg (fun q => h9 (by rw [q.1]; rfl))]; exact (xu_self hb).symm)
    · refine r_iload dX10_turnsOn_12 (by rfl) ?_
      refine r_aload_n dX10_turnsOn_14 rfl (by rfl) ?_
      refine gf_X10_411 rfl dX10_turnsOn_15 (by first | assumption | rfl) (by rfl) ?_
      refine PW.topi hb ?_
      refine r_icmp_leN (tgt := 27) dX10_turnsOn_18 (by decide) (by omega) (by omega) (fun h18 => ?_) (fun h18 => ?_)
      · refine r_ret rfl dX10_turnsOn_27 ?_
        refine ⟨rfl, ?_⟩
        unfold tO
        first
          | (rw [if_pos ⟨by
               by_cases e : left = 0
               · exact e
               · exact absurd h9 (nI_ne0 (by omega) (by omega)), by omega⟩]; done)
          | (rw [if_neg (by omega)]; exact (xu_self hb).symm)
          | (rw [if_neg (fun q => h9 (by rw [q.1]; rfl))]; exact (xu_self hb).symm)
      · refine r_aload_n dX10_turnsOn_21 rfl (by rfl) ?_
        refine r_iload dX10_turnsOn_22 (by rfl) ?_
        refine pf_X10_411 rfl dX10_turnsOn_24 (by first | assumption | rfl) (by rfl) ?_
        refine r_ret rfl dX10_turnsOn_27 ?_
        refine ⟨rfl, ?_⟩
        unfold tO
        first
          | (rw [if_pos ⟨by
               by_cases e : left = 0
               · exact e
               · exact absurd h9 (nI_ne0 (by omega) (by omega)), by omega⟩]; done)
          | (rw [if_neg (by omega)]; exact (xu_self hb).symm)
          | (rw [if_neg (fun q => h9 (by rw [q.1]; rfl))]; exact (xu_self hb).symm)
set_option maxHeartbeats 8000000 in
set_option maxRecDepth 20000 in
theorem n_turnsS {E : NE} {sv d r p left least best : Nat} {x : XS} (hs : sv < 32) (hd : d ≤ 12) (hn5 : eN E ≤ 5) (ih : TC E sv d r) (hp : p + (r + 1) = eN E) (hn : x 137 18 = nI (eN E)) (hr : ∀ p, p < eN E → ∃ k, k ≤ 240 ∧ x 142 (8 * p + 7) = nI k ∧ csN E p = k / 60) (hl : left ≤ d) (hle : least < 2 ^ 31) (hb2 : best < 2 ^ 31) (hb : x 137 47 = nI best) : MM mX10_turnsOn (r + 1) 0 0 [.ref 137, .int (nI p), .int (nI sv), .int (nI left), .int (nI d), .int (nI least)] x (fun v y => v = none ∧ y = xu x 137 47 (nI (tO E sv d (r + 1) p left least best))) NoT := by
  refine MM.of (by decide) (Nat.le_of_ble_eq_true rfl) ?_
  have y137 := lay_137
  have y142 := lay_142
  refine r_iload_n dX10_turnsOn_0 rfl (by rfl) ?_
  refine r_aload_n dX10_turnsOn_1 rfl (by rfl) ?_
  refine gf_X10_156 rfl dX10_turnsOn_2 (by first | assumption | rfl) (by rfl) ?_
  refine PW.topi hn ?_
  refine r_icmp_neN (tgt := 28) dX10_turnsOn_5 (by decide) (by omega) (by omega) (fun h5 => ?_) (fun h5 => ?_)
  · refine r_iload_n dX10_turnsOn_28 rfl (by rfl) ?_
    refine r_iload_n dX10_turnsOn_29 rfl (by rfl) ?_
    refine r_ishr dX10_turnsOn_30 ?_
    refine r_iconst (v := nI 1) dX10_turnsOn_31 (by decide) ?_
    refine r_iand dX10_turnsOn_32 ?_
    refine PW.topi (show _ = nI (sv / 2 ^ p % 2) from bitV_N (by omega) (by omega)) ?_
    refine r_if_ne (tgt := 50) dX10_turnsOn_33 (by decide) (fun h33 => ?_) (fun h33 => ?_)
    · obtain ⟨k9, hk9, ek9, ec9⟩ := hr p (by omega)
      refine r_bipush (v := nI 8) dX10_turnsOn_50 (by decide) ?_
      refine r_aload_n dX10_turnsOn_52 rfl (by rfl) ?_
      refine gf_X10_29 rfl dX10_turnsOn_53 (by first | assumption | rfl) (by rfl) ?_
      refine r_bipush (v := nI 8) dX10_turnsOn_56 (by decide) ?_
      refine r_iload_n dX10_turnsOn_58 rfl (by rfl) ?_
      refine r_imulN dX10_turnsOn_59 ?_
      refine r_bipush (v := nI 7) dX10_turnsOn_60 (by decide) ?_
      refine r_iaddN dX10_turnsOn_62 ?_
      refine r_ialdN dX10_turnsOn_63 (by first | assumption | rfl) (by omega) (by decide) ?_
      refine PW.topi ek9 ?_
      refine r_bipush (v := nI 60) dX10_turnsOn_64 (by decide) ?_
      refine r_idivN dX10_turnsOn_66 (by omega) (by omega) (by omega) ?_
      refine r_isubN dX10_turnsOn_67 (by omega) ?_
      refine PW.topi (show _ = nI (8 - csN E p) from (by rw [ec9])) ?_
      refine r_istore dX10_turnsOn_68 (by decide) ?_
      refine r_iconst (v := nI 0) dX10_turnsOn_70 (by decide) ?_
      refine r_istore dX10_turnsOn_71 (by decide) ?_
      refine PW.loop (σ := Nat) (fun k => left + 1 - k) (fun k => k ≤ left + 1) (fun k => [(0, .ref 137), (1, .int (nI p)), (2, .int (nI sv)), (3, .int (nI left)), (4, .int (nI d)), (5, .int (nI least)), (6, .int (nI (8 - csN E p))), (7, .int (nI k))]) (fun k => xu x 137 47 (nI (tK (tO E sv d r (p + 1)) left (csN E p) d least best k))) (0) (Nat.zero_le _) rfl (xu_self hb).symm (fun k hk kh => ?_)
      refine r_iload dX10_turnsOn_73 (by rfl) ?_
      refine r_iload_n dX10_turnsOn_75 rfl (by rfl) ?_
      refine r_icmp_gtN (tgt := 138) dX10_turnsOn_76 (by decide) (by omega) (by omega) (fun h76 => ?_) (fun h76 => ?_)
      · refine r_ret rfl dX10_turnsOn_138 ?_
        refine ⟨rfl, ?_⟩
        rw [tO, if_neg (fun e => h33 (by rw [e]; rfl)), show left + 1 = k by omega]
      · refine r_bipush (v := nI 8) dX10_turnsOn_79 (by decide) ?_
        refine r_iload dX10_turnsOn_81 (by rfl) ?_
        refine r_iload dX10_turnsOn_83 (by rfl) ?_
        refine r_isubN dX10_turnsOn_85 (by omega) ?_
        refine r_imulN dX10_turnsOn_86 ?_
        refine r_iload dX10_turnsOn_87 (by rfl) ?_
        refine r_if_le (tgt := 97) dX10_turnsOn_89 (by decide) (fun h89 => ?_) (fun h89 => ?_)
        · exfalso
          have := (nI_leI (by omega) (by decide)).mp (show nI (8 - csN E p) ≤ nI 0 from h89)
          omega
        · refine r_iload dX10_turnsOn_92 (by rfl) ?_
          refine r_goto (tgt := 98) dX10_turnsOn_94 (by decide) ?_
          refine r_iload dX10_turnsOn_98 (by rfl) ?_
          refine r_imulN dX10_turnsOn_100 ?_
          refine r_iaddN dX10_turnsOn_101 ?_
          refine PW.topi (show _ = nI (8 * d - csN E p * k) from congrArg nI (has_eq (by omega) (by omega))) ?_
          refine r_istore dX10_turnsOn_102 (by decide) ?_
          refine r_aload_n dX10_turnsOn_104 rfl (by rfl) ?_
          refine r_iload_n dX10_turnsOn_105 rfl (by rfl) ?_
          refine r_iconst (v := nI 1) dX10_turnsOn_106 (by decide) ?_
          refine r_iaddN dX10_turnsOn_107 ?_
          refine r_iload_n dX10_turnsOn_108 rfl (by rfl) ?_
          refine r_iload_n dX10_turnsOn_109 rfl (by rfl) ?_
          refine r_iload dX10_turnsOn_110 (by rfl) ?_
          refine r_isubN dX10_turnsOn_112 (by omega) ?_
          refine r_iload dX10_turnsOn_113 (by rfl) ?_
          refine r_iload dX10_turnsOn_115 (by rfl) ?_
          refine r_iload dX10_turnsOn_117 (by rfl) ?_
          refine r_icmp_geN (tgt := 127) dX10_turnsOn_119 (by decide) (by omega) (by omega) (fun h119 => ?_) (fun h119 => ?_)
          · refine r_iload dX10_turnsOn_127 (by rfl) ?_
            refine r_callV (ih (p + 1) (left - k) _ (tK (tO E sv d r (p + 1)) left (csN E p) d least best k) _ (by omega) (by rw [xu_k (by decide)]; exact hn) (fun p hp => by rw [xu_n (by decide)]; exact hr p hp) (by omega) (by omega) (by have := tK_le (left := left) (c := csN E p) (d := d) (least := least) (best := best) (tO_le (E := E) (sv := sv) (d := d) r (p + 1)) k; omega) xu_s) mv_X10_turnsOn ml_X10_414 ⟨by omega, by decide⟩ dX10_turnsOn_129 (by first | assumption | rfl) rfl rfl rfl (Nat.le_of_ble_eq_true rfl) (fun v9 x9 h9 => ?_)
            obtain ⟨rfl, h9⟩ := h9
            refine PW.xeq h9 ?_
            clear h9 x9
            refine r_iincN dX10_turnsOn_132 (by rfl) (by decide) ?_
            refine r_goto (tgt := 73) dX10_turnsOn_135 (by decide) ?_
            have e : tK (tO E sv d r (p + 1)) left (csN E p) d least best (k + 1) = tO E sv d r (p + 1) (left - k) (min (8 * d - csN E p * k) least) (tK (tO E sv d r (p + 1)) left (csN E p) d least best k) := rfl
            first
              | rw [Nat.min_eq_right (show least ≤ 8 * d - csN E p * k by omega)] at e
              | rw [Nat.min_eq_left (show 8 * d - csN E p * k ≤ least by omega)] at e
            exact PW.lc (by rfl) (by (try dsimp only); rw [xu_xu, e]) (kh (k + 1) (by omega) (by omega))
          · refine r_iload dX10_turnsOn_122 (by rfl) ?_
            refine r_goto (tgt := 129) dX10_turnsOn_124 (by decide) ?_
            refine r_callV (ih (p + 1) (left - k) _ (tK (tO E sv d r (p + 1)) left (csN E p) d least best k) _ (by omega) (by rw [xu_k (by decide)]; exact hn) (fun p hp => by rw [xu_n (by decide)]; exact hr p hp) (by omega) (by omega) (by have := tK_le (left := left) (c := csN E p) (d := d) (least := least) (best := best) (tO_le (E := E) (sv := sv) (d := d) r (p + 1)) k; omega) xu_s) mv_X10_turnsOn ml_X10_414 ⟨by omega, by decide⟩ dX10_turnsOn_129 (by first | assumption | rfl) rfl rfl rfl (Nat.le_of_ble_eq_true rfl) (fun v9 x9 h9 => ?_)
            obtain ⟨rfl, h9⟩ := h9
            refine PW.xeq h9 ?_
            clear h9 x9
            refine r_iincN dX10_turnsOn_132 (by rfl) (by decide) ?_
            refine r_goto (tgt := 73) dX10_turnsOn_135 (by decide) ?_
            have e : tK (tO E sv d r (p + 1)) left (csN E p) d least best (k + 1) = tO E sv d r (p + 1) (left - k) (min (8 * d - csN E p * k) least) (tK (tO E sv d r (p + 1)) left (csN E p) d least best k) := rfl
            first
              | rw [Nat.min_eq_right (show least ≤ 8 * d - csN E p * k by omega)] at e
              | rw [Nat.min_eq_left (show 8 * d - csN E p * k ≤ least by omega)] at e
            exact PW.lc (by rfl) (by (try dsimp only); rw [xu_xu, e]) (kh (k + 1) (by omega) (by omega))
    · refine r_aload_n dX10_turnsOn_36 rfl (by rfl) ?_
      refine r_iload_n dX10_turnsOn_37 rfl (by rfl) ?_
      refine r_iconst (v := nI 1) dX10_turnsOn_38 (by decide) ?_
      refine r_iaddN dX10_turnsOn_39 ?_
      refine r_iload_n dX10_turnsOn_40 rfl (by rfl) ?_
      refine r_iload_n dX10_turnsOn_41 rfl (by rfl) ?_
      refine r_iload dX10_turnsOn_42 (by rfl) ?_
      refine r_iload dX10_turnsOn_44 (by rfl) ?_
      refine r_callV (ih (p + 1) left least best x (by omega) hn hr hl hle hb2 hb) mv_X10_turnsOn ml_X10_414 ⟨by omega, by decide⟩ dX10_turnsOn_46 (by first | assumption | rfl) rfl rfl rfl (Nat.le_of_ble_eq_true rfl) (fun v9 x9 h9 => ?_)
      obtain ⟨rfl, h9⟩ := h9
      refine PW.xeq h9 ?_
      clear h9 x9
      refine r_ret rfl dX10_turnsOn_49 ?_
      refine ⟨rfl, ?_⟩
      rw [tO, if_pos (by
        by_cases e : sv / 2 ^ p % 2 = 0
        · exact e
        · exact absurd h33 (nI_ne0 (by omega) (by omega)))]
  · exfalso
    omega
theorem n_turns {E : NE} {sv d : Nat} (hs : sv < 32) (hd : d ≤ 12) (hn5 : eN E ≤ 5) : ∀ r, TC E sv d r
  | 0 => fun _ _ _ _ _ hp hn hr hl hle hb2 hb => n_turns0 hs hd hn5 hp hn hr hl hle hb2 hb
  | r + 1 => fun _ _ _ _ _ hp hn hr hl hle hb2 hb => n_turnsS hs hd hn5 (n_turns hs hd hn5 r) hp hn hr hl hle hb2 hb
theorem it_e7 {v : Int32} {n : Nat} {r : Except Nat Int32} (h : v ≤ nI 0) : rq (inB v (nI 0) (nI (2 ^ n - 1))) (rq (decide (2 ≤ pcN (nN v))) r) = .error 1 := by
  by_cases e : v = nI 0
  · subst e
    rw [rq_f (b := decide _) (by decide)]
    cases inB (nI 0) (nI 0) (nI (2 ^ n - 1)) <;> rfl
  · refine rq_f ?_
    unfold inB
    rw [decide_eq_false (fun q => e (Int32.le_antisymm h q))]
    rfl
theorem it_e17 {v : Int32} {n : Nat} {r : Except Nat Int32} (hn : n ≤ 5) (h : nI (2 ^ n) ≤ v) : rq (inB v (nI 0) (nI (2 ^ n - 1))) r = .error 1 := by
  refine rq_f ?_
  have p5 := pow5 hn
  unfold inB
  rw [Bool.and_eq_false_iff]
  refine Or.inr (decide_eq_false (fun q => ?_))
  have := (nI_leI (by omega) (by omega)).mp (Int32.le_trans h q)
  omega
theorem it_is {v : Int32} {n : Nat} (hn : n ≤ 5) (h : ¬ v ≤ nI 0) (h2 : v < nI (2 ^ n)) : ∃ k, 1 ≤ k ∧ k < 2 ^ n ∧ v = nI k := by
  have p5 := pow5 hn
  obtain ⟨k, h1, h3, rfl⟩ := inB_is (v := v) (lo := 0) (hi := 2 ^ n) (by
    unfold inB
    rw [decide_eq_true (Int32.le_of_lt (Int32.not_le.mp h)), decide_eq_true (Int32.le_of_lt h2)]
    rfl) (by omega) (by omega)
  refine ⟨k, ?_, ?_, rfl⟩
  · by_cases e : k = 0
    · subst e; exact absurd (Int32.le_refl _) h
    · omega
  · by_cases e : k = 2 ^ n
    · subst e; exact absurd h2 (fun q => Int32.lt_irrefl q)
    · omega
theorem it_pc {k : Nat} (h : k < 32) (h1 : 1 ≤ k) : (nI k &&& nI (k - 1) = 0) ↔ pcN k < 2 := by
  have key : ∀ k, k < 32 → 1 ≤ k → ((nI k &&& nI (k - 1) = 0) ↔ pcN k < 2) := by decide +kernel
  exact key k h h1
theorem it_e25 {k n : Nat} {r : Except Nat Int32} (hn : n ≤ 5) (h1 : 1 ≤ k) (h2 : k < 2 ^ n) (h : nI k &&& nI (k - 1) = 0) : rq (inB (nI k) (nI 0) (nI (2 ^ n - 1))) (rq (decide (2 ≤ pcN (nN (nI k)))) r) = .error 1 := by
  have p5 := pow5 hn
  rw [rqP_f (by omega) ((it_pc (by omega) h1).mp h), rq_t (inB_N (by omega) (by omega) (by omega))]
theorem it_t25 {k n : Nat} {r : Except Nat Int32} (hn : n ≤ 5) (h1 : 1 ≤ k) (h2 : k < 2 ^ n) (h : ¬ nI k &&& nI (k - 1) = 0) : rq (inB (nI k) (nI 0) (nI (2 ^ n - 1))) (rq (decide (2 ≤ pcN (nN (nI k)))) r) = r := by
  have p5 := pow5 hn
  have h9 : ¬ pcN k < 2 := fun q => h ((it_pc (by omega) h1).mpr q)
  rw [rqP_t (by omega) (by omega), rq_t (inB_N (by omega) (by omega) (by omega))]
set_option maxHeartbeats 8000000 in
set_option maxRecDepth 20000 in
theorem g_inTurns {a : AS} {x : XS} {v d9 : Int32} (hR : RRf x a) (hA : AI a) : RASK mX10_inTurns [.ref 137, .int v, .int d9] x a (oInTurns a v d9) 1 := by
  refine MM.of (by decide) (Nat.le_of_ble_eq_true rfl) ?_
  have y137 := lay_137
  have p5 := pow5 hR.1.2.1
  refine r_aload_n dX10_inTurns_0 rfl (by rfl) ?_
  refine r_iconst (v := nI 0) dX10_inTurns_1 (by decide) ?_
  refine pf_X10_3 rfl dX10_inTurns_2 (by first | assumption | rfl) (by rfl) ?_
  refine r_aload_n dX10_inTurns_5 rfl (by rfl) ?_
  refine r_iload_n dX10_inTurns_6 rfl (by rfl) ?_
  refine r_if_le (tgt := 42) dX10_inTurns_7 (by decide) (fun h7 => ?_) (fun h7 => ?_)
  · refine r_iconst (v := nI 0) dX10_inTurns_42 (by decide) ?_
    refine r_iconst (v := nI 1) dX10_inTurns_43 (by decide) ?_
    refine r_iconst (v := nI 1) dX10_inTurns_44 (by decide) ?_
    refine r_callV (c_may_0 xu_s (by decide) (by decide)) mv_X10_may ml_X10_203 ⟨by decide, by decide⟩ dX10_inTurns_45 lay_137 rfl rfl rfl (Nat.le_of_ble_eq_true rfl) (fun v9 x9 h9 => ?_)
    obtain ⟨rfl, h9⟩ := h9
    refine PW.xeq h9 ?_
    clear h9 x9
    refine r_if_neB (tgt := 53) dX10_inTurns_48 (by decide) (fun h => by cases h) (fun _ => ?_)
    refine r_iconst (v := nI 0) dX10_inTurns_51 (by decide) ?_
    refine r_iret rfl dX10_inTurns_52 ?_
    exact ref_bad hR rfl (by rw [oInTurns, it_e7 h7])
  · refine r_iload_n dX10_inTurns_10 rfl (by rfl) ?_
    refine r_iconst (v := nI 1) dX10_inTurns_11 (by decide) ?_
    refine r_aload_n dX10_inTurns_12 rfl (by rfl) ?_
    refine gf_X10_156 rfl dX10_inTurns_13 (by first | assumption | rfl) (by rfl) ?_
    refine PW.topi hR.1.1 ?_
    refine r_ishl dX10_inTurns_16 ?_
    refine PW.topi (shl_n hR.1.2.1) ?_
    refine r_icmp_ge (tgt := 42) dX10_inTurns_17 (by decide) (fun h17 => ?_) (fun h17 => ?_)
    · refine r_iconst (v := nI 0) dX10_inTurns_42 (by decide) ?_
      refine r_iconst (v := nI 1) dX10_inTurns_43 (by decide) ?_
      refine r_iconst (v := nI 1) dX10_inTurns_44 (by decide) ?_
      refine r_callV (c_may_0 xu_s (by decide) (by decide)) mv_X10_may ml_X10_203 ⟨by decide, by decide⟩ dX10_inTurns_45 lay_137 rfl rfl rfl (Nat.le_of_ble_eq_true rfl) (fun v9 x9 h9 => ?_)
      obtain ⟨rfl, h9⟩ := h9
      refine PW.xeq h9 ?_
      clear h9 x9
      refine r_if_neB (tgt := 53) dX10_inTurns_48 (by decide) (fun h => by cases h) (fun _ => ?_)
      refine r_iconst (v := nI 0) dX10_inTurns_51 (by decide) ?_
      refine r_iret rfl dX10_inTurns_52 ?_
      exact ref_bad hR rfl (by rw [oInTurns, it_e17 hR.1.2.1 h17])
    · obtain ⟨sv, hv1, hv2, rfl⟩ := it_is hR.1.2.1 h7 (by first | exact h17 | exact Int32.not_le.mp h17)
      refine r_iload_n dX10_inTurns_20 rfl (by rfl) ?_
      refine r_iload_n dX10_inTurns_21 rfl (by rfl) ?_
      refine r_iconst (v := nI 1) dX10_inTurns_22 (by decide) ?_
      refine r_isubN dX10_inTurns_23 (by omega) ?_
      refine r_iand dX10_inTurns_24 ?_
      refine r_if_eq (tgt := 42) dX10_inTurns_25 (by decide) (fun h25 => ?_) (fun h25 => ?_)
      · refine r_iconst (v := nI 0) dX10_inTurns_42 (by decide) ?_
        refine r_iconst (v := nI 1) dX10_inTurns_43 (by decide) ?_
        refine r_iconst (v := nI 1) dX10_inTurns_44 (by decide) ?_
        refine r_callV (c_may_0 xu_s (by decide) (by decide)) mv_X10_may ml_X10_203 ⟨by decide, by decide⟩ dX10_inTurns_45 lay_137 rfl rfl rfl (Nat.le_of_ble_eq_true rfl) (fun v9 x9 h9 => ?_)
        obtain ⟨rfl, h9⟩ := h9
        refine PW.xeq h9 ?_
        clear h9 x9
        refine r_if_neB (tgt := 53) dX10_inTurns_48 (by decide) (fun h => by cases h) (fun _ => ?_)
        refine r_iconst (v := nI 0) dX10_inTurns_51 (by decide) ?_
        refine r_iret rfl dX10_inTurns_52 ?_
        exact ref_bad hR rfl (by rw [oInTurns, it_e25 hR.1.2.1 hv1 hv2 h25])
      · refine r_iload_n dX10_inTurns_28 rfl (by rfl) ?_
        refine r_iconst (v := nI 0) dX10_inTurns_29 (by decide) ?_
        refine r_bipush (v := nI 12) dX10_inTurns_30 (by decide) ?_
        refine r_callS c_within10 ms_X10_within ml_X10_282 ⟨by have := hR.1.2.1; omega, by decide⟩ dX10_inTurns_32 rfl (Nat.le_of_ble_eq_true rfl) (fun v9 x9 h9 => ?_)
        obtain ⟨rfl, h9⟩ := h9
        refine PW.xeq h9 ?_
        clear h9 x9
        refine r_if_eqB (tgt := 42) dX10_inTurns_35 (by decide) (fun h35 => ?_) (fun h35 => ?_)
        · refine r_iconst (v := nI 0) dX10_inTurns_42 (by decide) ?_
          refine r_iconst (v := nI 1) dX10_inTurns_43 (by decide) ?_
          refine r_iconst (v := nI 1) dX10_inTurns_44 (by decide) ?_
          refine r_callV (c_may_0 xu_s (by decide) (by decide)) mv_X10_may ml_X10_203 ⟨by decide, by decide⟩ dX10_inTurns_45 lay_137 rfl rfl rfl (Nat.le_of_ble_eq_true rfl) (fun v9 x9 h9 => ?_)
          obtain ⟨rfl, h9⟩ := h9
          refine PW.xeq h9 ?_
          clear h9 x9
          refine r_if_neB (tgt := 53) dX10_inTurns_48 (by decide) (fun h => by cases h) (fun _ => ?_)
          refine r_iconst (v := nI 0) dX10_inTurns_51 (by decide) ?_
          refine r_iret rfl dX10_inTurns_52 ?_
          exact ref_bad hR rfl (by rw [oInTurns, it_t25 hR.1.2.1 hv1 hv2 h25, rq_f h35])
        · refine r_iconst (v := nI 1) dX10_inTurns_38 (by decide) ?_
          refine r_goto (tgt := 43) dX10_inTurns_39 (by decide) ?_
          refine r_iconst (v := nI 1) dX10_inTurns_43 (by decide) ?_
          refine r_iconst (v := nI 1) dX10_inTurns_44 (by decide) ?_
          refine r_callV (c_may_1 xu_s) mv_X10_may ml_X10_203 ⟨by decide, by decide⟩ dX10_inTurns_45 lay_137 rfl rfl rfl (Nat.le_of_ble_eq_true rfl) (fun v9 x9 h9 => ?_)
          obtain ⟨rfl, h9⟩ := h9
          refine PW.xeq h9 ?_
          clear h9 x9
          refine r_if_neB (tgt := 53) dX10_inTurns_48 (by decide) (fun _ => ?_) (fun h => by cases h)
          obtain ⟨d, _, hd, rfl⟩ := inB_is (lo := 0) (hi := 12) h35 (by decide) (by decide)
          have hr9 : ∀ p, p < eN (aE a) → ∃ k, k ≤ 240 ∧ x 142 (8 * p + 7) = nI k ∧ csN (aE a) p = k / 60 := fun p hp => by
            obtain ⟨k, hk, ek⟩ := (hA.1.2.1 p hp).2.2
            exact ⟨k, hk, (hR.1.2.2.1 7 (by decide) p hp).trans ek, by unfold csN; rw [ek, nN_nI (by omega)]⟩
          refine r_aload_n dX10_inTurns_53 rfl (by rfl) ?_
          refine r_iconst (v := nI 0) dX10_inTurns_54 (by decide) ?_
          refine pf_X10_411 rfl dX10_inTurns_55 (by first | assumption | rfl) (by rfl) ?_
          refine r_aload_n dX10_inTurns_58 rfl (by rfl) ?_
          refine r_iconst (v := nI 0) dX10_inTurns_59 (by decide) ?_
          refine r_iload_n dX10_inTurns_60 rfl (by rfl) ?_
          refine r_iload_n dX10_inTurns_61 rfl (by rfl) ?_
          refine r_iload_n dX10_inTurns_62 rfl (by rfl) ?_
          refine r_ldcw kc_X10_419 dX10_inTurns_63 ?_
          refine PW.topi (show _ = nI 2147483647 from (by decide)) ?_
          refine r_callV (n_turns (sv := sv) (d := d) (by omega) (by omega) hR.1.2.1 (eN (aE a)) 0 d 2147483647 0 (xu (th0 x) 137 47 (nI 0)) (Nat.zero_add _) (hR.1.1) hr9 (Nat.le_refl _) (by decide) (by decide) xu_s) mv_X10_turnsOn ml_X10_414 ⟨by have := hR.1.2.1; omega, by decide⟩ dX10_inTurns_66 (by first | assumption | rfl) rfl rfl rfl (Nat.le_of_ble_eq_true rfl) (fun v9 x9 h9 => ?_)
          obtain ⟨rfl, h9⟩ := h9
          refine PW.xeq h9 ?_
          clear h9 x9
          refine r_aload_n dX10_inTurns_69 rfl (by rfl) ?_
          refine gf_X10_411 rfl dX10_inTurns_70 (by first | assumption | rfl) (by rfl) ?_
          refine PW.topi xu_s ?_
          refine r_iret rfl dX10_inTurns_73 ?_
          refine ref_ok hR (((th0_qf x).put7 (by omega)).put7 (by omega)) rfl ?_
          rw [oInTurns, it_t25 hR.1.2.1 hv1 hv2 h25, rq_t h35, nN_nI (by omega), nN_nI (by omega), tO_tn hR.1.2.1 hv2 ?_ (B := 2147483647) (by omega)]
          have h9 : ¬ pcN sv < 2 := fun q => h25 ((it_pc (by omega) hv1).mpr q)
          omega
