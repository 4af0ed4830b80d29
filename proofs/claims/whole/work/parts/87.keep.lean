/-! THE SPEC keeps making sense -/
theorem wRun_RO {g : Nat → Nat} {len a : Nat} {E : NE} {q : List ST × Nat} {f : Nat → Int32} (hns : eN E ≤ 5) (h : pWork g len (eN E) a = .ok q) (hf : RO f) : RO (wRun E q.1 f).1 := by
  obtain ⟨q1, e1, h⟩ := xbn_is h
  obtain ⟨a2, e2, h⟩ := xbn_is h
  injection h with h
  subst h
  have w := ((SK.all hns 6).steps 151 0 a q1 e1).1
  have w1 : ∀ i, i < q1.1.length → lK q1.1 i < 7 ∧ lO q1.1 i < 100 ∧ (lK q1.1 i ≠ 6 → lO q1.1 i < 5 ∧ (lK q1.1 i = 0 → lT q1.1 i < 5)) ∧ (lK q1.1 i = 6 → i + 1 ≤ lT q1.1 i ∧ lT q1.1 i ≤ q1.1.length) := fun i hi => by
    have w1 := w i (q1.1[i]) (List.getElem?_eq_getElem hi)
    have hK : q1.1.getD i (0, 0, 0) = q1.1[i] := by rw [List.getD_eq_getElem?_getD, List.getElem?_eq_getElem hi]; rfl
    unfold lK lO lT
    rw [hK]
    refine ⟨w1.1, w1.2.1, w1.2.2.1, fun e => ?_⟩
    have := w1.2.2.2 e
    omega
  refine exL_keep wBeg wTick (wDo E (lK q1.1) (lO q1.1) (lT q1.1)) (lK q1.1) (lO q1.1) (lT q1.1) (P := fun s => RO s.1) (z := q1.1.length) (fun i hi hk => (w1 i hi).2.2.2 hk) (fun s hs _ => hs) (fun i s hi hk hs => ?_) 6 0 q1.1.length _ (Nat.le_refl _) hf
  have hs : RO s.1 := hs
  have hp := pf_RO (E := E) (kd := lK q1.1 i) (p := lO q1.1 i) (q := lT q1.1 i) hs hns ((w1 i hi).2.2.1 hk).1 ((w1 i hi).2.2.1 hk).2
  show RO (wDo E _ _ _ i s).1
  unfold wDo
  split
  · exact hp
  · exact hp
theorem AI.X {a : AS} (h : AI a) : AI (bmX a) := h
theorem AI.U {a : AS} (h : AI a) : AI (bmU a) := h
theorem AI.bp {a : AS} {r : Except Nat Int32} (h : AI a) : AI (bmp a r) := by
  unfold bmp
  split
  · exact h
  · exact h
  · exact h
theorem AI.sT {a : AS} {T : Nat → Nat} {k : Nat} {p : Int32} (h : AI a) : AI (setT a T k p) := h
theorem AI.feed {a : AS} {v1 v2 v3 v4 v5 : Int32} (h : AI a) : AI (oFeed a v1 v2 v3 v4 v5).2 := by
  unfold oFeed
  split
  · exact h
  · exact h
theorem AI.book {a : AS} {v : Int32} (h : AI a) : AI (oBook a v).2 := by
  unfold oBook
  split
  · split
    · exact h
    · exact h
  · exact h
theorem AI.undo {a : AS} (h : AI a) : AI (oUndo a).2 := by
  unfold oUndo
  split
  · exact h
  · next e => exact ⟨h.1, h.2.2.1 _ (by omega), fun i hi => h.2.2.1 i (by have hi : i < aWn a - 1 := hi; omega), h.2.2.2⟩
theorem AI.image {a : AS} (h : AI a) : AI (oImage a).2 := by
  unfold oImage
  split
  · refine ⟨h.1, h.2.1, h.2.2.1, fun i hi => ?_⟩
    have hi : i < aIn a + 1 := hi
    show RO (if i = aIn a then aR a else aI a i) ∧ ∀ j, j < (if i = aIn a then (aWn a, aW a) else aJ a i).1 → RO ((if i = aIn a then (aWn a, aW a) else aJ a i).2 j)
    by_cases e : i = aIn a
    · rw [if_pos e, if_pos e]
      exact ⟨h.2.1, h.2.2.1⟩
    · rw [if_neg e, if_neg e]
      exact h.2.2.2 i (by omega)
  · exact h
theorem AI.restore {a : AS} (h : AI a) : AI (oRestore a).2 := by
  unfold oRestore
  split
  · next e =>
    have w := h.2.2.2 (aIn a - 1) (by omega)
    exact ⟨h.1, w.1, w.2, fun i hi => h.2.2.2 i (by have hi : i < aIn a - 1 := hi; omega)⟩
  · exact h
theorem AI.law {a : AS} {y : XS} {w v : Int32} (h : AI a) (hR : RRf y (oLaw a w v).2) : AI (oLaw a w v).2 := by
  unfold oLaw at hR ⊢
  by_cases h1 : inB w (nI 0) (nI 1) = true
  · rw [if_pos h1] at hR ⊢
    by_cases h2 : inB v (nI 0) (nI (min 150 (aH a))) = true
    · rw [if_pos h2] at hR ⊢
      cases h3 : pLaw (aT a) (nN v) 0 with
      | error e => exact h
      | ok q =>
        rw [h3] at hR
        exact ⟨⟨h.1.1, h.1.2.1, hR.1.2.2.2.2.2.1.1, hR.1.2.2.2.2.2.2.1, h.1.2.2.2.2⟩, h.2.1, h.2.2.1, h.2.2.2⟩
    · rw [if_neg h2]
      exact h
  · rw [if_neg h1]
    exact h
theorem AI.work {a : AS} {v : Int32} (h : AI a) : AI (oWork a v).2 := by
  unfold oWork
  split
  · split
    · exact h
    · split
      · exact h
      · rename_i q hq
        refine ⟨h.1, wRun_RO h.1.1 hq h.2.1, fun i hi => ?_, h.2.2.2⟩
        have hi : i < aWn a + 1 := hi
        show RO (if i = aWn a then aR a else aW a i)
        by_cases e : i = aWn a
        · rw [if_pos e]; exact h.2.1
        · rw [if_neg e]; exact h.2.2.1 i (by omega)
  · exact h
/-- a house as its text tells it -/
def HOK (h : HS) : Prop := HS.n h ≤ 5 ∧ (∀ p, p < HS.n h → HS.row h 0 p ≤ 60 ∧ HS.row h 3 p ≤ 1 ∧ HS.row h 7 p ≤ 240) ∧ HS.wall h ≤ 40
theorem four_lt {g : Nat → Nat} {len a : Nat} {q : (Nat × Nat × Nat × Nat) × Nat} (h : pFour g len a = .ok q) : q.1.1 < 61 ∧ q.1.2.2.2 < 2 := by
  unfold pFour at h
  cases h1 : pNum g len 0 61 a with
  | error e => rw [h1] at h; cases h
  | ok q0 =>
    rw [h1] at h
    have h : (match pNum g len 0 21 q0.2 with | .error e => .error e | .ok q1 => (match pNum g len 0 10 q1.2 with | .error e => .error e | .ok q2 => (match pNum g len 0 2 q2.2 with | .error e => .error e | .ok q3 => .ok ((q0.1, q1.1, q2.1, q3.1), q3.2)))) = (.ok q : Except PE _) := h
    cases h2 : pNum g len 0 21 q0.2 with
    | error e => rw [h2] at h; cases h
    | ok q1 =>
      rw [h2] at h
      have h : (match pNum g len 0 10 q1.2 with | .error e => .error e | .ok q2 => (match pNum g len 0 2 q2.2 with | .error e => .error e | .ok q3 => .ok ((q0.1, q1.1, q2.1, q3.1), q3.2))) = (.ok q : Except PE _) := h
      cases h3 : pNum g len 0 10 q1.2 with
      | error e => rw [h3] at h; cases h
      | ok q2 =>
        rw [h3] at h
        have h : (match pNum g len 0 2 q2.2 with | .error e => .error e | .ok q3 => .ok ((q0.1, q1.1, q2.1, q3.1), q3.2)) = (.ok q : Except PE _) := h
        cases h4 : pNum g len 0 2 q2.2 with
        | error e => rw [h4] at h; cases h
        | ok q3 =>
          rw [h4] at h
          injection h with h
          subst h
          exact ⟨(pNum_lt h1).2, (pNum_lt h4).2⟩
theorem HOK.put {h : HS} {k p v : Nat} (hk : HOK h) (h0 : k ≠ 0) (h3 : k ≠ 3) (h7 : k = 7 → v ≤ 240) : HOK (HS.put h k p v) := by
  refine ⟨hk.1, fun p9 hp => ?_, hk.2.2⟩
  have w := hk.2.1 p9 hp
  show (if 0 = k then updN (HS.row h k) p v else HS.row h 0) p9 ≤ 60 ∧ (if 3 = k then updN (HS.row h k) p v else HS.row h 3) p9 ≤ 1 ∧ (if 7 = k then updN (HS.row h k) p v else HS.row h 7) p9 ≤ 240
  rw [if_neg (Ne.symm h0), if_neg (Ne.symm h3)]
  refine ⟨w.1, w.2.1, ?_⟩
  by_cases e : 7 = k
  · rw [if_pos e]
    subst e
    unfold updN
    split
    · exact h7 rfl
    · exact w.2.2
  · rw [if_neg e]; exact w.2.2
theorem pOf_HOK {g : Nat → Nat} {len k n a : Nat} {h : HS} {q : HS × Nat} (hk : HOK h) (h0 : k ≠ 0) (h3 : k ≠ 3) (h7 : k = 7 → n ≤ 241) (e : pOf g len k n h a = .ok q) : HOK q.1 := by
  unfold pOf at e
  cases h1 : pTwo g len (HS.n h) n a with
  | error e9 => rw [h1] at e; cases e
  | ok r =>
    rw [h1] at e
    injection e with e
    subst e
    have w := (two_v h1).2.2.2
    exact hk.put h0 h3 (fun q => by have := h7 q; omega)
theorem pClause_HOK {g : Nat → Nat} {len w b a : Nat} {h : HS} {q : HS × Nat} (hk : HOK h) (e : pClause g len w h b a = .ok q) : HOK q.1 := by
  unfold pClause at e
  split at e
  · unfold pSleeper at e
    split at e
    · cases e
    · cases h1 : pFour g len a with
      | error e9 => rw [h1] at e; cases e
      | ok r =>
        rw [h1] at e
        injection e with e
        subst e
        have w := four_lt h1
        refine ⟨by show HS.n h + 1 ≤ 5; omega, fun p hp => ?_, hk.2.2⟩
        have hp : p < HS.n h + 1 := hp
        show (if p = HS.n h then r.1.1 else HS.row h 0 p) ≤ 60 ∧ (if p = HS.n h then r.1.2.2.2 else HS.row h 3 p) ≤ 1 ∧ (if p = HS.n h then 0 else HS.row h 7 p) ≤ 240
        by_cases ep : p = HS.n h
        · rw [if_pos ep, if_pos ep, if_pos ep]
          omega
        · rw [if_neg ep, if_neg ep, if_neg ep]
          exact hk.2.1 p (by omega)
  · split at e
    · exact pOf_HOK hk (by decide) (by decide) (by decide) e
    · split at e
      · exact pOf_HOK hk (by decide) (by decide) (by decide) e
      · split at e
        · exact pOf_HOK hk (by decide) (by decide) (by decide) e
        · split at e
          · exact pOf_HOK hk (by decide) (by decide) (by decide) e
          · split at e
            · cases h1 : pNum g len 0 41 a with
              | error e9 => rw [h1] at e; cases e
              | ok r =>
                rw [h1] at e
                injection e with e
                subst e
                have := (pNum_lt h1).2
                exact ⟨hk.1, hk.2.1, by show r.1 ≤ 40; omega⟩
            · split at e
              · cases h1 : pNum g len 1 61 a with
                | error e9 => rw [h1] at e; cases e
                | ok r =>
                  rw [h1] at e
                  injection e with e
                  subst e
                  exact hk
              · unfold pClock at e
                split at e
                · cases e
                · cases h1 : pTwo g len 60 41 a with
                  | error e9 => rw [h1] at e; cases e
                  | ok r =>
                    rw [h1] at e
                    injection e with e
                    subst e
                    exact hk
theorem pHouse_HOK {g : Nat → Nat} {len : Nat} : ∀ m h a q, HOK h → pHouse g len m h a = .ok q → HOK q.1
  | 0, h, a, q, hk, e => by
    injection e with e
    subst e
    exact hk
  | m + 1, h, a, q, hk, e => by
    unfold pHouse at e
    split at e
    · injection e with e
      subst e
      exact hk
    · cases h1 : pWord g len 0 a with
      | error e9 => rw [h1] at e; cases e
      | ok w =>
        rw [h1] at e
        have e : (if m = 0 then .error (3, skip g len a) else match pClause g len w.1 h (skip g len a) w.2 with | .error e => .error e | .ok q => (match pTake g len 59 q.2 with | .error e => .error e | .ok a2 => pHouse g len m q.1 a2)) = (.ok q : Except PE (HS × Nat)) := e
        split at e
        · cases e
        · cases h2 : pClause g len w.1 h (skip g len a) w.2 with
          | error e9 => rw [h2] at e; cases e
          | ok r =>
            rw [h2] at e
            have e : (match pTake g len 59 r.2 with | .error e => .error e | .ok a2 => pHouse g len m r.1 a2) = (.ok q : Except PE (HS × Nat)) := e
            cases h3 : pTake g len 59 r.2 with
            | error e9 => rw [h3] at e; cases e
            | ok a2 =>
              rw [h3] at e
              exact pHouse_HOK m r.1 a2 q (pClause_HOK hk h2) e
theorem h0_HOK : HOK h0 := ⟨by decide, fun p hp => absurd hp (Nat.not_lt_zero _), by decide⟩
theorem rd0_RO : RO rd0 := ⟨⟨0, by decide, rfl⟩, fun p _ => ⟨⟨0, by decide, rfl⟩, ⟨0, by decide, rfl⟩, ⟨0, by decide, rfl⟩, ⟨0, by decide, rfl⟩⟩⟩
theorem bgr_RO {h : HS} (hk : HOK h) : ∀ i, i ≤ HS.n h → RO (bgr (hsE h) i)
  | 0, _ => rd0_RO
  | i + 1, hi => by
    have ih := bgr_RO hk i (by omega)
    have w := hk.2.1 i (by omega)
    have h5 := hk.1
    exact ((ih.tired (by omega) ⟨_, by omega, rfl⟩).room (by omega) ⟨_, w.2.1, rfl⟩).plugs (by omega)
theorem AI.anew {a : AS} {h : HS} (hk : HOK h) : AI (aNew a h) := by
  refine ⟨⟨hk.1, fun p hp => ?_, loudL_LW, fallsL_LW, ⟨_, hk.2.2, rfl⟩⟩, bgr_RO hk _ (Nat.le_refl _), fun i hi => absurd hi (Nat.not_lt_zero _), fun i hi => absurd hi (Nat.not_lt_zero _)⟩
  have w := hk.2.1 p hp
  exact ⟨⟨_, w.1, rfl⟩, ⟨_, w.2.1, rfl⟩, ⟨_, w.2.2, rfl⟩⟩
theorem AI.house {a : AS} {v : Int32} (h : AI a) : AI (oHouse a v).2 := by
  unfold oHouse
  split
  · split
    · exact h
    · rename_i q hq
      exact AI.anew (pHouse_HOK _ _ _ _ h0_HOK hq)
  · exact h
