/-! THE ABSTRACT STATE: house and laws; the night's row; bytes that came, how many, the fault's place; the book; works; images; refused steps; refusals of both kinds -/
abbrev AS : Type := NE × (Nat → Int32) × ((Nat → Nat) × Nat × Int32) × List (Nat × Nat) × (Nat × (Nat → Nat → Int32)) × (Nat × (Nat → Nat → Int32) × (Nat → Nat × (Nat → Nat → Int32))) × Int32 × Int32 × Int32
abbrev aE (a : AS) : NE := a.1
abbrev aR (a : AS) : Nat → Int32 := a.2.1
abbrev aT (a : AS) : Nat → Nat := a.2.2.1.1
abbrev aH (a : AS) : Nat := a.2.2.1.2.1
abbrev aP (a : AS) : Int32 := a.2.2.1.2.2
abbrev aB (a : AS) : List (Nat × Nat) := a.2.2.2.1
abbrev aWn (a : AS) : Nat := a.2.2.2.2.1.1
abbrev aW (a : AS) : Nat → Nat → Int32 := a.2.2.2.2.1.2
abbrev aIn (a : AS) : Nat := a.2.2.2.2.2.1.1
abbrev aI (a : AS) : Nat → Nat → Int32 := a.2.2.2.2.2.1.2.1
abbrev aJ (a : AS) : Nat → Nat × (Nat → Nat → Int32) := a.2.2.2.2.2.1.2.2
abbrev aRf (a : AS) : Int32 := a.2.2.2.2.2.2.1
abbrev aU (a : AS) : Int32 := a.2.2.2.2.2.2.2.1
abbrev aX (a : AS) : Int32 := a.2.2.2.2.2.2.2.2
def mkA (E : NE) (f : Nat → Int32) (T : Nat → Nat) (h : Nat) (p : Int32) (b : List (Nat × Nat)) (wn : Nat) (w : Nat → Nat → Int32) (n : Nat) (i : Nat → Nat → Int32) (j : Nat → Nat × (Nat → Nat → Int32)) (rf u bad : Int32) : AS := (E, f, (T, h, p), b, (wn, w), (n, i, j), rf, u, bad)
def bmX (a : AS) : AS := (a.1, a.2.1, a.2.2.1, a.2.2.2.1, a.2.2.2.2.1, a.2.2.2.2.2.1, aRf a, aU a, aX a + nI 1)
def bmU (a : AS) : AS := (a.1, a.2.1, a.2.2.1, a.2.2.2.1, a.2.2.2.2.1, a.2.2.2.2.2.1, aRf a, aU a + nI 1, aX a)
/-- rows of nights that make sense -/
def RO (f : Nat → Int32) : Prop := (∃ t, t ≤ 240 ∧ f 40 = nI t) ∧ ∀ p, p < 5 → (∃ k, k ≤ 99 ∧ f (0 + p) = nI k) ∧ (∃ k, k ≤ 1 ∧ f (5 + p) = nI k) ∧ (∃ k, k ≤ 9 ∧ f (10 + p) = nI k) ∧ (∃ k, k ≤ 1 ∧ f (15 + p) = nI k)
/-- the house as its text can tell it -/
def EO (E : NE) : Prop := eN E ≤ 5 ∧ (∀ p, p < eN E → (∃ k, k ≤ 60 ∧ eH E 0 p = nI k) ∧ (∃ k, k ≤ 1 ∧ eH E 3 p = nI k) ∧ ∃ k, k ≤ 240 ∧ eH E 7 p = nI k) ∧ LW (eL E) ∧ LW (eF E) ∧ ∃ k, k ≤ 40 ∧ eW E = nI k
def AI (a : AS) : Prop := EO (aE a) ∧ RO (aR a) ∧ (∀ i, i < aWn a → RO (aW a i)) ∧ ∀ i, i < aIn a → RO (aI a i) ∧ ∀ j, j < (aJ a i).1 → RO ((aJ a i).2 j)
/-! THE CLASS'S cells, by it -/
def RCt (x : XS) (a : AS) : Prop := x 1 1 = nI (aH a) ∧ aH a ≤ 600 ∧ (∀ j, j < 600 → x 2 j = nI (aT a j) ∧ aT a j < 256) ∧ x 1 5 = aP a
def RCb (x : XS) (a : AS) : Prop := x 33 2 = nI (aB a).length ∧ (aB a).length ≤ 8 ∧ (∀ (j : Nat) (q : Nat × Nat), (aB a)[j]? = some q → x 34 j = nI q.1 ∧ x 35 j = nI q.2) ∧ ∀ (j : Nat) (q : Nat × Nat), (aB a)[j]? = some q → q.1 < 240 ∧ q.2 < 41
def RCw (x : XS) (a : AS) : Prop := x 55 1 = nI (aWn a) ∧ aWn a ≤ 16 ∧ ∀ i, i < aWn a → x (57 + i) = aW a i
def RCi (x : XS) (a : AS) : Prop := x 73 2 = nI (aIn a) ∧ aIn a ≤ 3 ∧ ∀ i, i < aIn a → x (75 + i) = aI a i ∧ x (79 + 18 * i) 1 = nI (aJ a i).1 ∧ (aJ a i).1 ≤ 16 ∧ ∀ j, j < (aJ a i).1 → x (81 + 18 * i + j) = (aJ a i).2 j
def RCc (x : XS) (a : AS) : Prop := x 0 14 = aRf a ∧ x 0 15 = aU a ∧ x 0 16 = aX a
def RCn (x : XS) (a : AS) : Prop := x 44 = aR a ∧ x 43 7 = eW (aE a) ∧ x 45 = fun _ => nI 0
def RC (x : XS) (a : AS) : Prop := RE x (aE a) ∧ RCn x a ∧ RCt x a ∧ RCb x a ∧ RCw x a ∧ RCi x a ∧ RCc x a
/-- cells that asking may change -/
def TS (c : Nat) : Prop := c = 26 ∨ c = 29 ∨ (49 ≤ c ∧ c ≤ 54)
def TF (x y : XS) : Prop := ∀ c, ¬ TS c → y c = x c
theorem TF.rfl {x : XS} : TF x x := fun _ _ => _root_.rfl
theorem TF.trans {x y z : XS} (h : TF x y) (h2 : TF y z) : TF x z := fun c hc => (h2 c hc).trans (h c hc)
theorem RE.tf {x y : XS} {E : NE} (h : RE x E) (t : TF x y) : RE y E := h.fr (fun c hc => t c (by unfold TS; omega))
theorem RC.fr {x y : XS} {a : AS} (h : RC x a) (t : ∀ c, ¬ TS c → c < 133 → y c = x c) : RC y a := by
  obtain ⟨h1, h2, h3, h4, h5, h6, h7⟩ := h
  have e : ∀ c, ¬ TS c → c < 133 → y c = x c := t
  refine ⟨h1.fr (fun c hc => e c (by unfold TS; omega) (by omega)), ?_, ?_, ?_, ?_, ?_, ?_⟩
  · unfold RCn
    rw [e 44 (by unfold TS; omega) (by omega), e 43 (by unfold TS; omega) (by omega), e 45 (by unfold TS; omega) (by omega)]
    exact h2
  · unfold RCt
    rw [e 1 (by unfold TS; omega) (by omega), e 2 (by unfold TS; omega) (by omega)]
    exact h3
  · unfold RCb
    rw [e 33 (by unfold TS; omega) (by omega), e 34 (by unfold TS; omega) (by omega), e 35 (by unfold TS; omega) (by omega)]
    exact h4
  · refine ⟨?_, h5.2.1, fun i hi => ?_⟩
    · rw [e 55 (by unfold TS; omega) (by omega)]; exact h5.1
    · have := h5.2.1
      rw [e (57 + i) (by unfold TS; omega) (by omega)]; exact h5.2.2 i hi
  · refine ⟨?_, h6.2.1, fun i hi => ?_⟩
    · rw [e 73 (by unfold TS; omega) (by omega)]; exact h6.1
    · have h3 := h6.2.1
      obtain ⟨k1, k2, k3, k4⟩ := h6.2.2 i hi
      refine ⟨?_, ?_, k3, fun j hj => ?_⟩
      · rw [e (75 + i) (by unfold TS; omega) (by omega)]; exact k1
      · rw [e (79 + 18 * i) (by unfold TS; omega) (by omega)]; exact k2
      · rw [e (81 + 18 * i + j) (by unfold TS; omega) (by omega)]; exact k4 j hj
  · unfold RCc
    rw [e 0 (by unfold TS; omega) (by omega)]
    exact h7
theorem RC.tf {x y : XS} {a : AS} (h : RC x a) (t : TF x y) : RC y a := h.fr (fun c hc _ => t c hc)
/-- asking, with the choices and the tally -/
def TG (x y : XS) : Prop := ∀ c, ¬ TS c → (c < 133 ∨ 137 ≤ c) → y c = x c
theorem TF.g {x y : XS} (h : TF x y) : TG x y := fun c hc _ => h c hc
theorem TG.rfl {x : XS} : TG x x := fun _ _ _ => _root_.rfl
theorem TG.trans {x y z : XS} (h : TG x y) (h2 : TG y z) : TG x z := fun c hc h3 => (h2 c hc h3).trans (h c hc h3)
theorem RC.tg {x y : XS} {a : AS} (h : RC x a) (t : TG x y) : RC y a := h.fr (fun c hc h3 => t c hc (Or.inl h3))
theorem RC.bad {x : XS} {a : AS} (h : RC x a) : RC (badX x) (bmX a) := by
  obtain ⟨h1, h2, h3, h4, h5, h6, h7⟩ := h
  refine ⟨h1.fr (fun c hc => xu_n (by omega)), h2, h3, h4, ⟨h5.1, h5.2.1, fun i hi => ?_⟩, ⟨h6.1, h6.2.1, fun i hi => ?_⟩, h7.1, h7.2.1, ?_⟩
  · show badX x (57 + i) = _
    rw [show badX x (57 + i) = x (57 + i) from xu_n (by omega)]
    exact h5.2.2 i hi
  · obtain ⟨k1, k2, k3, k4⟩ := h6.2.2 i hi
    refine ⟨?_, ?_, k3, fun j hj => ?_⟩
    · rw [show badX x (75 + i) = x (75 + i) from xu_n (by omega)]; exact k1
    · rw [show badX x (79 + 18 * i) = x (79 + 18 * i) from xu_n (by omega)]; exact k2
    · rw [show badX x (81 + 18 * i + j) = x (81 + 18 * i + j) from xu_n (by omega)]; exact k4 j hj
  · show x 0 16 + nI 1 = aX a + nI 1
    rw [h7.2.2]
theorem RC.nob {x : XS} {a : AS} (h : RC x a) : RC (nobX x) (bmU a) := by
  obtain ⟨h1, h2, h3, h4, h5, h6, h7⟩ := h
  refine ⟨h1.fr (fun c hc => xu_n (by omega)), h2, h3, h4, ⟨h5.1, h5.2.1, fun i hi => ?_⟩, ⟨h6.1, h6.2.1, fun i hi => ?_⟩, h7.1, ?_, h7.2.2⟩
  · show nobX x (57 + i) = _
    rw [show nobX x (57 + i) = x (57 + i) from xu_n (by omega)]
    exact h5.2.2 i hi
  · obtain ⟨k1, k2, k3, k4⟩ := h6.2.2 i hi
    refine ⟨?_, ?_, k3, fun j hj => ?_⟩
    · rw [show nobX x (75 + i) = x (75 + i) from xu_n (by omega)]; exact k1
    · rw [show nobX x (79 + 18 * i) = x (79 + 18 * i) from xu_n (by omega)]; exact k2
    · rw [show nobX x (81 + 18 * i + j) = x (81 + 18 * i + j) from xu_n (by omega)]; exact k4 j hj
  · show x 0 15 + nI 1 = aU a + nI 1
    rw [h7.2.1]
/-! CONTRACTS BY THE SPEC: r the answer (an error 0: no such sleeper, 1: wrong arguments), a' the state behind it -/
def HI (x y : XS) : Prop := ∀ c, 137 ≤ c → y c = x c
theorem TF.hi {x y : XS} (h : TF x y) : HI x y := fun c hc => h c (by unfold TS; omega)
def CP (x : XS) (r : Except Nat Int32) (a' : AS) : Option Value → XS → Prop := fun v y => ∃ w, r = .ok w ∧ v = some (.int w) ∧ RC y a' ∧ HI x y
def CT (x : XS) (r : Except Nat Int32) (a' : AS) : String → XS → Prop := fun E y => ∃ k, r = .error k ∧ E = (if k = 0 then thS else thI) ∧ RC y a' ∧ HI x y
def bmp (a : AS) (r : Except Nat Int32) : AS := match r with
  | .ok _ => a
  | .error 0 => bmU a
  | .error _ => bmX a
/-- asking: nothing changes but the counts of refusals -/
def ASK (M : MD) (as : List Value) (x : XS) (a : AS) (r : Except Nat Int32) : Prop := MM M 40 1 6 as x (CP x r (bmp a r)) (CT x r (bmp a r))
theorem ask_ok {x y : XS} {a : AS} {r : Except Nat Int32} {w : Int32} (hC : RC x a) (t : TF x y) (h : r = .ok w) : CP x r (bmp a r) (some (.int w)) y := by
  subst h
  exact ⟨w, rfl, rfl, hC.tf t, t.hi⟩
theorem TG.hi {x y : XS} (h : TG x y) : HI x y := fun c hc => h c (by unfold TS; omega) (Or.inr hc)
theorem ask_okG {x y : XS} {a : AS} {r : Except Nat Int32} {w : Int32} (hC : RC x a) (t : TG x y) (h : r = .ok w) : CP x r (bmp a r) (some (.int w)) y := by
  subst h
  exact ⟨w, rfl, rfl, hC.tg t, t.hi⟩
theorem ask_bad {x y : XS} {a : AS} {r : Except Nat Int32} (hC : RC x a) (hy : y = badX x) (h : r = .error 1) : CT x r (bmp a r) thI y := by
  subst h
  subst hy
  exact ⟨1, rfl, rfl, hC.bad, fun c hc => xu_n (by omega)⟩
theorem ask_nob {x y : XS} {a : AS} {r : Except Nat Int32} (hC : RC x a) (hy : y = nobX x) (h : r = .error 0) : CT x r (bmp a r) thS y := by
  subst h
  subst hy
  exact ⟨0, rfl, rfl, hC.nob, fun c hc => xu_n (by omega)⟩
/-- the trial night, begun out of the real one -/
def askX (x : XS) : XS := xu (xu (xr (xr x 50 (x 44)) 51 (fun _ => nI 0)) 49 7 (x 3 11)) 49 8 (nI 0)
theorem ask_agr (x : XS) : agr (followX x) (askX x) := by
  intro c k hk
  unfold followX askX
  by_cases h49 : c = 49
  · subst h49; rfl
  · rw [xu_n h49, xu_n h49, xu_n h49, xu_n h49]
    by_cases h51 : c = 51
    · subst h51
      rw [xr_s, xr_s]
      exact zfill_lt 5 hk
    · rw [xr_n h51, xr_n h51]
      by_cases h50 : c = 50
      · subst h50
        rw [xr_s, xr_s]
        have hk : k < 42 := hk
        rw [pk_cpy_in (Nat.zero_le _) (by omega)]
        rw [show 0 + (k - 0) = k by omega]
      · rw [xr_n h50, xr_n h50]
theorem askX_tf (x : XS) : TF x (askX x) := fun c hc => by
  unfold TS at hc
  unfold askX
  rw [xu_n (by omega), xu_n (by omega), xr_n (by omega), xr_n (by omega)]
theorem askX_50 (x : XS) : askX x 50 = x 44 := rfl
theorem askX_51 (x : XS) : askX x 51 = fun _ => nI 0 := rfl
theorem askX_7 (x : XS) : askX x 49 7 = x 3 11 := rfl
