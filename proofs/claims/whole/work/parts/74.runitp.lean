/-! THE REFERENCE: a law's units, what they tell -/
def nmL (l : List Nat) (R : Except PE (Nat × Nat)) : LR := xbn R (fun q => .ok (l, q.2))
def nmC : Except PE (Nat × Nat) → Nat
  | .ok q => q.1
  | .error _ => 0
theorem u_par {g : Nat → Nat} {len a : Nat} {l : List Nat} {F : Nat → LR} (h : nxV g len a = nI 40) : app (.ok (l, a)) (pU g len (some F)) = sgn g len 41 (app (.ok (l, skip g len a + 1)) F) := by
  show xbn (pU g len (some F) a) _ = xbn (xbn (F (skip g len a + 1)) _) _
  unfold pU
  rw [if_pos h]
  dsimp only
  cases F (skip g len a + 1) with
  | error e => rfl
  | ok q =>
    rw [xbn_ok, xbn_ok, xbn_ok]
    cases pTake g len 41 q.2 <;> rfl
theorem u_par0 {g : Nat → Nat} {len a : Nat} {l : List Nat} (h : nxV g len a = nI 40) : app (.ok (l, a)) (pU g len none) = .error (3, skip g len a) := by
  show xbn (pU g len none a) _ = _
  unfold pU
  rw [if_pos h]
  rfl
theorem u_num {g : Nat → Nat} {len a : Nat} {l : List Nat} {s : Option (Nat → LR)} (h : ¬ nxV g len a = nI 40) (hd : digB (nxV g len a) = true) : app (.ok (l, a)) (pU g len s) = emi (nmL l (pNum g len 0 1000 a)) (nmC (pNum g len 0 1000 a)) := by
  show xbn (pU g len s a) _ = _
  unfold pU
  rw [if_neg h, if_pos hd]
  cases pNum g len 0 1000 a <;> rfl
theorem u_nam {g : Nat → Nat} {len a : Nat} {l : List Nat} {s : Option (Nat → LR)} (h : ¬ nxV g len a = nI 40) (hd : digB (nxV g len a) = false) : app (.ok (l, a)) (pU g len s) = app (.ok (l, a)) (pNamed g len s) := by
  show xbn (pU g len s a) _ = xbn (pNamed g len s a) _
  unfold pU
  rw [if_neg h, if_neg (by rw [hd]; decide)]
theorem u_two {g : Nat → Nat} {len a w : Nat} {l : List Nat} {F : Nat → LR} (hw : wrd g len 1 a = some w) (h9 : ¬ w < 9) : app (.ok (l, a)) (pNamed g len (some F)) = two g len (if w = 9 then 2004 else 2005) F (.ok (l, smE g len (skip g len a))) := by
  show xbn (pNamed g len (some F) a) _ = _
  unfold pNamed pWord
  rw [hw]
  show xbn (xbn (.ok (w, smE g len (skip g len a))) _) _ = _
  rw [xbn_ok, if_neg h9]
  unfold two sgn app emi
  rw [xbn_ok]
  dsimp only
  cases pTake g len 91 (smE g len (skip g len a)) with
  | error e => rfl
  | ok a1 =>
    simp only [xbn_ok]
    cases F a1 with
    | error e => rfl
    | ok q1 =>
      simp only [xbn_ok]
      cases pTake g len 44 q1.2 with
      | error e => rfl
      | ok a2 =>
        simp only [xbn_ok]
        cases F a2 with
        | error e => rfl
        | ok q2 =>
          simp only [xbn_ok]
          cases pTake g len 93 q2.2 with
          | error e => rfl
          | ok a3 =>
            simp only [xbn_ok, List.append_assoc]
theorem u_two0 {g : Nat → Nat} {len a w : Nat} {l : List Nat} (hw : wrd g len 1 a = some w) (h9 : ¬ w < 9) : app (.ok (l, a)) (pNamed g len none) = .error (3, skip g len a) := by
  show xbn (pNamed g len none a) _ = _
  unfold pNamed pWord
  rw [hw]
  show xbn (xbn (.ok (w, smE g len (skip g len a))) _) _ = _
  rw [xbn_ok, if_neg h9]
  rfl
theorem u_fac {g : Nat → Nat} {len a w : Nat} {l : List Nat} {s : Option (Nat → LR)} (hw : wrd g len 1 a = some w) (h9 : w < 9) : app (.ok (l, a)) (pNamed g len s) = emi (.ok (l, smE g len (skip g len a))) (1000 + w) := by
  show xbn (pNamed g len s a) _ = _
  unfold pNamed pWord
  rw [hw]
  show xbn (xbn (.ok (w, smE g len (skip g len a))) _) _ = _
  rw [xbn_ok, if_pos h9]
  rfl
theorem u_non {g : Nat → Nat} {len a : Nat} {l : List Nat} {s : Option (Nat → LR)} (hw : wrd g len 1 a = none) : app (.ok (l, a)) (pNamed g len s) = .error (1, skip g len a) := by
  show xbn (pNamed g len s a) _ = _
  unfold pNamed pWord
  rw [hw]
  rfl
set_option maxRecDepth 100000 in
theorem is_least {g : Nat → Nat} {len a : Nat} (h : wdN g len a = ofW 11) : wrd g len 1 a = some 9 ∧ smE g len (skip g len a) = skip g len a + 5 := by
  have w := (w1_least g len a).mp h
  refine ⟨?_, ?_⟩
  · unfold wrd
    rw [wkey1, if_neg (fun q => absurd (((w1_snores g len a).mpr q).symm.trans h) (show ¬ ofW 13 = ofW 11 by decide +kernel)), if_neg (fun q => absurd (((w1_wine g len a).mpr q).symm.trans h) (show ¬ ofW 4 = ofW 11 by decide +kernel)), if_neg (fun q => absurd (((w1_cold g len a).mpr q).symm.trans h) (show ¬ ofW 5 = ofW 11 by decide +kernel)), if_neg (fun q => absurd (((w1_depth g len a).mpr q).symm.trans h) (show ¬ ofW 14 = ofW 11 by decide +kernel)), if_neg (fun q => absurd (((w1_tired g len a).mpr q).symm.trans h) (show ¬ ofW 15 = ofW 11 by decide +kernel)), if_neg (fun q => absurd (((w1_heard g len a).mpr q).symm.trans h) (show ¬ ofW 16 = ofW 11 by decide +kernel)), if_neg (fun q => absurd (((w1_light g len a).mpr q).symm.trans h) (show ¬ ofW 17 = ofW 11 by decide +kernel)), if_neg (fun q => absurd (((w1_minute g len a).mpr q).symm.trans h) (show ¬ ofW 18 = ofW 11 by decide +kernel)), if_neg (fun q => absurd (((w1_awake g len a).mpr q).symm.trans h) (show ¬ ofW 19 = ofW 11 by decide +kernel)), if_pos w]
  · unfold isW at w
    rw [Bool.and_eq_true, decide_eq_true_eq] at w
    have := smE_ge g len (skip g len a)
    omega
set_option maxRecDepth 100000 in
theorem is_most {g : Nat → Nat} {len a : Nat} (h : wdN g len a = ofW 12) : wrd g len 1 a = some 10 ∧ smE g len (skip g len a) = skip g len a + 4 := by
  have w := (w1_most g len a).mp h
  refine ⟨?_, ?_⟩
  · unfold wrd
    rw [wkey1, if_neg (fun q => absurd (((w1_snores g len a).mpr q).symm.trans h) (show ¬ ofW 13 = ofW 12 by decide +kernel)), if_neg (fun q => absurd (((w1_wine g len a).mpr q).symm.trans h) (show ¬ ofW 4 = ofW 12 by decide +kernel)), if_neg (fun q => absurd (((w1_cold g len a).mpr q).symm.trans h) (show ¬ ofW 5 = ofW 12 by decide +kernel)), if_neg (fun q => absurd (((w1_depth g len a).mpr q).symm.trans h) (show ¬ ofW 14 = ofW 12 by decide +kernel)), if_neg (fun q => absurd (((w1_tired g len a).mpr q).symm.trans h) (show ¬ ofW 15 = ofW 12 by decide +kernel)), if_neg (fun q => absurd (((w1_heard g len a).mpr q).symm.trans h) (show ¬ ofW 16 = ofW 12 by decide +kernel)), if_neg (fun q => absurd (((w1_light g len a).mpr q).symm.trans h) (show ¬ ofW 17 = ofW 12 by decide +kernel)), if_neg (fun q => absurd (((w1_minute g len a).mpr q).symm.trans h) (show ¬ ofW 18 = ofW 12 by decide +kernel)), if_neg (fun q => absurd (((w1_awake g len a).mpr q).symm.trans h) (show ¬ ofW 19 = ofW 12 by decide +kernel)), if_neg (fun q => absurd (((w1_least g len a).mpr q).symm.trans h) (show ¬ ofW 11 = ofW 12 by decide +kernel)), if_pos w]
  · unfold isW at w
    rw [Bool.and_eq_true, decide_eq_true_eq] at w
    have := smE_ge g len (skip g len a)
    omega
theorem fc_f {g : Nat → Nat} {len a : Nat} (h1 : ¬ wdN g len a = ofW 11) (h2 : ¬ wdN g len a = ofW 12) (h : fcI (wrd g len 1 a) = -1) : wrd g len 1 a = none := by
  cases hw : wrd g len 1 a with
  | none => rfl
  | some w =>
    exfalso
    rw [hw] at h
    have h : (if w < 9 then nI w else -1) = (-1 : Int32) := h
    by_cases q : w < 9
    · rw [if_pos q] at h
      exact absurd h (nI_ne1 (by omega))
    · have h11 := w1_lt hw
      have hl := mt (w1_least g len a).mpr h1
      have hm := mt (w1_most g len a).mpr h2
      unfold wrd at hw
      rw [wkey1, if_neg hl, if_neg hm] at hw
      repeat (split at hw; · (injection hw with hw; omega))
      cases hw
theorem fc_t {g : Nat → Nat} {len a : Nat} (h : ¬ fcI (wrd g len 1 a) = -1) : ∃ w, w < 9 ∧ wrd g len 1 a = some w ∧ fcI (wrd g len 1 a) = nI w := by
  cases hw : wrd g len 1 a with
  | none => rw [hw] at h; exact absurd rfl h
  | some w =>
    by_cases q : w < 9
    · exact ⟨w, q, rfl, if_pos q⟩
    · rw [hw] at h
      exact absurd (if_neg q) h
