/-! PURE: laws that were read make sense; work carried out over any states -/
def RK (K : Nat) (u : Nat → LR) : Prop := ∀ a q, u a = .ok q → CV q.1 ∧ ∀ h, h + K ≤ 32 → RH q.1 h (h + 1)
theorem CV.one {c : Nat} (h : c < 1009 ∨ (2000 ≤ c ∧ c < 2006)) : CV [c] := fun d hd => by
  rw [List.mem_singleton] at hd
  rw [hd]
  exact h
theorem RK.loop {g : Nat → Nat} {len K s1 s2 c1 c2 : Nat} {u : Nat → LR} (h : RK K u) (h1 : 2000 ≤ c1 ∧ c1 < 2006) (h2 : 2000 ≤ c2 ∧ c2 < 2006) : ∀ n a q, pLoop g len u s1 s2 c1 c2 n a = .ok q → CV q.1 ∧ ∀ k, 1 ≤ k → k + K ≤ 32 → RH q.1 k k
  | 0, a, q, e => by
    injection e with e
    subst e
    exact ⟨fun _ hc => (by cases hc), fun k _ _ => rfl⟩
  | n + 1, a, q, e => by
    unfold pLoop at e
    split at e
    · obtain ⟨q1, e1, e⟩ := xbn_is e
      obtain ⟨r, e2, e⟩ := xbn_is e
      injection e with e
      subst e
      have w1 := h _ _ e1
      have w2 := RK.loop h h1 h2 n _ _ e2
      have hc : 2000 ≤ (if nxV g len a = nI s1 then c1 else c2) ∧ (if nxV g len a = nI s1 then c1 else c2) < 2006 := by split <;> assumption
      refine ⟨w1.1.app (show CV ([_] ++ r.1) from (CV.one (Or.inr hc)).app w2.1), fun k hk hK => ?_⟩
      refine RH.app _ _ k (k + 1) k (w1.2 k hK) ?_
      show if (if nxV g len a = nI s1 then c1 else c2) < 2000 then _ else 2 ≤ k + 1 ∧ RH r.1 (k + 1 - 1) k
      rw [if_neg (by omega)]
      exact ⟨by omega, by rw [show k + 1 - 1 = k by omega]; exact w2.2 k hk hK⟩
    · injection e with e
      subst e
      exact ⟨fun _ hc => (by cases hc), fun k _ _ => rfl⟩
theorem RK.chain {g : Nat → Nat} {len K s1 s2 c1 c2 : Nat} {u : Nat → LR} (h : RK K u) (h1 : 2000 ≤ c1 ∧ c1 < 2006) (h2 : 2000 ≤ c2 ∧ c2 < 2006) : RK (K + 1) (pChain g len u s1 s2 c1 c2) := by
  intro a q e
  obtain ⟨q1, e1, e⟩ := xbn_is e
  obtain ⟨r, e2, e⟩ := xbn_is e
  injection e with e
  subst e
  have w1 := h _ _ e1
  have w2 := RK.loop h h1 h2 _ _ _ e2
  exact ⟨w1.1.app w2.1, fun k hk => RH.app _ _ k (k + 1) (k + 1) (w1.2 k (by omega)) (w2.2 (k + 1) (by omega) (by omega))⟩
theorem RK.sumOf {g : Nat → Nat} {len K : Nat} {u : Nat → LR} (h : RK K u) : RK (K + 2) (pSumOf g len u) := (h.chain (by decide) (by decide)).chain (by decide) (by decide)
theorem RH.push {c h : Nat} (hc : c < 2000) (hh : h + 1 ≤ 32) : RH [c] h (h + 1) := by
  show if c < 2000 then h + 1 ≤ 32 ∧ h + 1 = h + 1 else _
  rw [if_pos hc]
  exact ⟨hh, rfl⟩
theorem RK.unit {g : Nat → Nat} {len K : Nat} {s : Option (Nat → LR)} (h : ∀ F, s = some F → RK K F) : RK (K + 1) (pU g len s) := by
  intro a q e
  unfold pU at e
  split at e
  · cases s with
    | none => cases e
    | some F =>
      obtain ⟨q1, e1, e⟩ := xbn_is e
      obtain ⟨a2, e2, e⟩ := xbn_is e
      injection e with e
      subst e
      exact ⟨(h F rfl _ _ e1).1, fun k hk => (h F rfl _ _ e1).2 k (by omega)⟩
  · split at e
    · obtain ⟨q1, e1, e⟩ := xbn_is e
      injection e with e
      subst e
      have := (pNum_lt e1).2
      exact ⟨CV.one (by omega), fun k hk => RH.push (by omega) (by omega)⟩
    · obtain ⟨w, e1, e⟩ := xbn_is e
      split at e
      · injection e with e
        subst e
        exact ⟨CV.one (by omega), fun k hk => RH.push (by omega) (by omega)⟩
      · cases s with
        | none => cases e
        | some F =>
          obtain ⟨a1, e2, e⟩ := xbn_is e
          obtain ⟨q1, e3, e⟩ := xbn_is e
          obtain ⟨a2, e4, e⟩ := xbn_is e
          obtain ⟨q2, e5, e⟩ := xbn_is e
          obtain ⟨a3, e6, e⟩ := xbn_is e
          injection e with e
          subst e
          have w1 := h F rfl _ _ e3
          have w2 := h F rfl _ _ e5
          have hc : 2000 ≤ (if w.1 = 9 then 2004 else 2005) ∧ (if w.1 = 9 then 2004 else 2005) < 2006 := by split <;> decide
          refine ⟨(w1.1.app w2.1).app (CV.one (Or.inr hc)), fun k hk => ?_⟩
          refine RH.app _ _ k (k + 2) (k + 1) (RH.app _ _ k (k + 1) (k + 2) (w1.2 k (by omega)) (w2.2 (k + 1) (by omega))) ?_
          show if (if w.1 = 9 then 2004 else 2005) < 2000 then _ else 2 ≤ k + 2 ∧ k + 2 - 1 = k + 1
          rw [if_neg (by omega)]
          omega
theorem RK.all {g : Nat → Nat} {len : Nat} : ∀ lev, RK (3 * lev + 1) (pUnit g len lev)
  | 0 => RK.unit (K := 0) (fun F e => by cases e)
  | lev + 1 => by
    have w := RK.all (g := g) (len := len) lev
    have w2 : RK (3 * lev + 3) (pSumOf g len (pUnit g len lev)) := w.sumOf
    have w3 := RK.unit (g := g) (len := len) (s := some (pSumOf g len (pUnit g len lev))) (K := 3 * lev + 3) (fun F e => by injection e with e; subst e; exact w2)
    exact w3
theorem pLaw_LW {g : Nat → Nat} {len : Nat} {q : List Nat × Nat} (hg : ∀ j, j < 600 → g j < 256) (hl : len ≤ 150) (hq : q.2 ≤ len) (h : pLaw g len 0 = .ok q) : LW q.1 := by
  obtain ⟨q1, e1, h⟩ := xbn_is h
  obtain ⟨a2, e2, h⟩ := xbn_is h
  injection h with h
  subst h
  have w : RK 21 (pSum g len 6) := (RK.all (g := g) (len := len) 6).sumOf
  have w1 := w _ _ e1
  have hlen := (LenOK.all (g := g) (len := len) hg (by omega) 6).sumOf _ _ e1
  have he : q1.2 ≤ a2 := by
    unfold pEnd at e2
    split at e2
    · injection e2 with e2
      have := skip_ge g len q1.2
      omega
    · cases e2
  have hq : a2 ≤ len := hq
  exact ⟨by show q1.1.length ≤ 150; omega, by show 0 < q1.1.length; omega, w1.2 0 (by omega), w1.1⟩
def loudL : List Nat := [1000, 2, 2002, 1001, 2000, 1002, 2000]
def fallsL : List Nat := [1004, 4, 2003, 1005, 2001]
theorem loudL_LW : LW loudL := ⟨by decide, by decide, by unfold loudL RH; simp [RH], by unfold CV loudL; decide⟩
theorem fallsL_LW : LW fallsL := ⟨by decide, by decide, by unfold fallsL RH; simp [RH], by unfold CV fallsL; decide⟩
theorem wrL_get (f : Nat → Int32) (l : List Nat) {i q : Nat} (h : l[i]? = some q) : wrL f 0 l i = nI q := by
  have := wrL_at l f 0 i q h
  rw [Nat.zero_add] at this
  exact this
theorem cpR_lt {g f : Nat → Int32} {j : Nat} : ∀ n, j < n → cpR g f n j = f j
  | 0, h => by omega
  | n + 1, h => by
    show upd (cpR g f n) n (f n) j = f j
    by_cases e : j = n
    · rw [e, pk_us]
    · rw [pk_un e]
      exact cpR_lt n (by omega)
/-! carrying out, over states that go along -/
section Sim
variable {σ τ : Type} {beg : σ → Nat} {tick : σ → σ} {doit : Nat → σ → σ} {beg' : τ → Nat} {tick' : τ → τ} {doit' : Nat → τ → τ} {K O T : Nat → Nat} {R : σ → τ → Prop} {z : Nat}
theorem exR_sim {inner : Nat → Nat → σ → σ} {inner' : Nat → Nat → τ → τ} (hb : ∀ s t, R s t → beg s = beg' t) (i to : Nat) (hi : ∀ s t, R s t → R (inner i to s) (inner' i to t)) : ∀ n s t, R s t → R (exR beg inner n i to s) (exR beg' inner' n i to t)
  | 0, s, t, h => h
  | n + 1, s, t, h => by
    unfold exR
    rw [hb s t h]
    split
    · exact exR_sim hb i to hi n _ _ (hi s t h)
    · exact h
theorem exM_sim {inner : Nat → Nat → σ → σ} {inner' : Nat → Nat → τ → τ} {to : Nat} (hto : to ≤ z) (hw : ∀ i, i < z → K i = 6 → i + 1 ≤ T i ∧ T i ≤ z) (hb : ∀ s t, R s t → beg s = beg' t) (ht : ∀ s t, R s t → beg' t < 240 → R (tick s) (tick' t)) (hd : ∀ i s t, i < z → K i ≠ 6 → R s t → R (doit i s) (doit' i t)) (hi : ∀ i t s s', t ≤ z → i ≤ t → R s s' → R (inner i t s) (inner' i t s')) : ∀ m i s t, R s t → R (exM beg tick doit K O T inner m i to s) (exM beg' tick' doit' K O T inner' m i to t)
  | 0, i, s, t, h => h
  | m + 1, i, s, t, h => by
    unfold exM
    rw [hb s t h]
    by_cases hc : i < to ∧ beg' t < 240
    · rw [if_pos hc, if_pos hc]
      by_cases hk : K i = 6
      · rw [if_pos hk, if_pos hk]
        have hwi := hw i (by omega) hk
        exact exM_sim hto hw hb ht hd hi m _ _ _ (exR_sim hb _ _ (fun s t hs => hi _ _ _ _ hwi.2 hwi.1 hs) _ _ _ (ht s t h hc.2))
      · rw [if_neg hk, if_neg hk]
        exact exM_sim hto hw hb ht hd hi m _ _ _ (hd i _ _ (by omega) hk (ht s t h hc.2))
    · rw [if_neg hc, if_neg hc]
      exact h
theorem exL_sim (hw : ∀ i, i < z → K i = 6 → i + 1 ≤ T i ∧ T i ≤ z) (hb : ∀ s t, R s t → beg s = beg' t) (ht : ∀ s t, R s t → beg' t < 240 → R (tick s) (tick' t)) (hd : ∀ i s t, i < z → K i ≠ 6 → R s t → R (doit i s) (doit' i t)) : ∀ lev i to s t, to ≤ z → R s t → R (exL beg tick doit K O T lev i to s) (exL beg' tick' doit' K O T lev i to t)
  | 0, i, to, s, t, hto, h => exM_sim hto hw hb ht hd (fun _ _ _ _ _ _ h => h) _ _ _ _ h
  | lev + 1, i, to, s, t, hto, h => exM_sim hto hw hb ht hd (fun i t s s' h1 _ h => exL_sim hw hb ht hd lev i t s s' h1 h) _ _ _ _ h
end Sim
/-- work's states: the row, how many steps are begun, done, refused -/
abbrev WK : Type := (Nat → Int32) × Nat × Int32 × Int32
def pfR (E : NE) (f : Nat → Int32) (kd p q : Nat) : Nat → Int32 := if kd = 0 then nudgeR f p q else if kd = 5 then minP E (eW E) rd0 (nI 0) f else if kd = 4 then callR f p else if asl f p then f else pawR f kd p (nI q)
def wBeg (s : WK) : Nat := s.2.1
def wTick (s : WK) : WK := (s.1, s.2.1 + 1, s.2.2.1, s.2.2.2)
def wDo (E : NE) (K O T : Nat → Nat) (i : Nat) (s : WK) : WK := if pfB s.1 (K i) (O i) (T i) (nN (s.1 40)) then (pfR E s.1 (K i) (O i) (T i), s.2.1, s.2.2.1 + nI 1, s.2.2.2) else (pfR E s.1 (K i) (O i) (T i), s.2.1, s.2.2.1, s.2.2.2 + nI 1)
def wRun (E : NE) (l : List ST) (f : Nat → Int32) : WK := exL wBeg wTick (wDo E (lK l) (lO l) (lT l)) (lK l) (lO l) (lT l) 6 0 l.length (f, 0, nI 0, nI 0)
