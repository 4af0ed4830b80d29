/-! THE TRIAL NIGHT, by its row: wall w, kept awake by rd, row f -/
def TN (y : XS) (E : NE) (w : Int32) (rd f : Nat → Int32) : Prop := RE y E ∧ y 49 7 = w ∧ y 51 = rd ∧ y 50 = f
theorem IsN.trial : IsN 49 := Or.inr rfl
theorem RE.sz {y : XS} {E : NE} (h : RE y E) : y 24 1 = nI (eL E).length ∧ (eL E).length ≤ 150 ∧ y 27 1 = nI (eF E).length ∧ (eF E).length ≤ 150 := ⟨h.2.2.2.2.2.2.1.2.1, h.2.2.2.2.2.2.1.1.1, h.2.2.2.2.2.2.2.2.1, h.2.2.2.2.2.2.2.1.1⟩
theorem TN.tf {y z : XS} {E : NE} {w : Int32} {rd f f' : Nat → Int32} (h : TN y E w rd f) (t : TF y z) (h7 : z 49 7 = y 49 7) (h51 : z 51 = y 51) (h50 : z 50 = f') : TN z E w rd f' := ⟨h.1.tf t, h7.trans h.2.1, h51.trans h.2.2.1, h50⟩
section Trial
variable {y : XS} {E : NE} {w k : Int32} {rd f : Nat → Int32} {t p q m : Nat}
theorem t_isAsleep (h : TN y E w rd f) (hp : p < 5) : MM mX6_isAsleep 0 0 0 [.ref 49, .int (nI p)] y (fun v z => v = some (.int (bI (asl f p))) ∧ z = y) NoT := by
  rw [← h.2.2.2]
  exact c_X6_isAsleep IsN.trial hp
theorem t_asleepCount (h : TN y E w rd f) : MM mX6_asleepCount 1 0 0 [.ref 49] y (fun v z => v = some (.int (nI (cntA f (eN E)))) ∧ z = y) NoT := by
  rw [← h.2.2.2]
  exact c_X6_asleepCount IsN.trial h.1.2.1 h.1.1
theorem t_sleptByAll (h : TN y E w rd f) : MM mX6_sleptByAll 0 0 0 [.ref 49] y (fun v z => v = some (.int (sumR f 25 (eN E))) ∧ z = y) NoT := by
  rw [← h.2.2.2]
  exact c_X6_sleptByAll IsN.trial h.1.2.1 h.1.1
theorem t_minute (h : TN y E w rd f) (ht : f 40 = nI t) (h2 : t ≤ 240) : MM mX6_passMinute 4 0 0 [.ref 49, .int k] y (fun v z => v = some (.int (bI (decide (t < 240)))) ∧ TN z E w rd (minP E w rd k f) ∧ TF y z) NoT := by
  obtain ⟨hR, h7, h51, h50⟩ := id h
  have hz := hR.sz
  refine (c_X6_passMinute (c0 := 49) IsN.trial hR.2.1 hR.1 hz.1 hz.2.1 hz.2.2.1 hz.2.2.2 (by rw [h50]; exact ht) h2).imp ?_
  rintro v z ⟨e1, e2⟩
  subst e2
  have fr : TF y (MN y 49 (eN E) (eL E).length (eF E).length k) := fun c hc => by
    unfold TS at hc
    exact MN_n (by omega) (by omega) (by omega) (by omega) (by omega) (by omega)
  refine ⟨e1, h.tf fr ?_ ?_ ?_, fr⟩
  · rw [MN_n (by decide) (by decide) (by decide) (by decide) (by decide) (by decide)]
  · rw [MN_n (by decide) (by decide) (by decide) (by decide) (by decide) (by decide)]
  · have e := MN_row (k := k) hR IsN.trial (t := t) (by rw [h50]; exact ht) h2
    rw [h7, h51, h50] at e
    exact e
theorem t_sleptInNext (h : TN y E w rd f) (ht : f 40 = nI t) (h2 : t ≤ 240) (hm : m < 2 ^ 30) : MM mX6_sleptInNext 5 0 0 [.ref 49, .int (nI m)] y (fun v z => v = some (.int (sumR (itP E w rd f m) 25 (eN E) - sumR f 25 (eN E))) ∧ TN z E w rd (itP E w rd f m) ∧ TF y z) NoT := by
  obtain ⟨hR, h7, h51, h50⟩ := id h
  have hz := hR.sz
  refine (c_X6_sleptInNext (c0 := 49) IsN.trial hR.2.1 hR.1 hz.1 hz.2.1 hz.2.2.1 hz.2.2.2 (by rw [h50]; exact ht) h2 hm).imp ?_
  rintro v z ⟨e1, e2⟩
  subst e2
  have e := itM_row hR IsN.trial (t := t) (by rw [h50]; exact ht) h2 m
  rw [h7, h51, h50] at e
  have fr : TF y (itM y 49 (eN E) (eL E).length (eF E).length m) := fun c hc => by
    unfold TS at hc
    exact itM_n (by omega) (by omega) (by omega) (by omega) (by omega) (by omega) m
  refine ⟨?_, h.tf fr ?_ ?_ e, fr⟩
  · rw [e1, e, h50]
  · rw [itM_n (by decide) (by decide) (by decide) (by decide) (by decide) (by decide)]
  · rw [itM_n (by decide) (by decide) (by decide) (by decide) (by decide) (by decide)]
theorem t_oneSlept (h : TN y E w rd f) (ht : f 40 = nI t) (h2 : t ≤ 240) (hm : m < 2 ^ 30) (hp : p < 5) : MM mX6_oneSleptInNext 6 0 0 [.ref 49, .int (nI p), .int (nI m)] y (fun v z => v = some (.int (itP E w rd f m (25 + p) - f (25 + p))) ∧ TN z E w rd (itP E w rd f m) ∧ TF y z) NoT := by
  obtain ⟨hR, h7, h51, h50⟩ := id h
  have hz := hR.sz
  refine (c_X6_oneSleptInNext (c0 := 49) IsN.trial hR.2.1 hR.1 hz.1 hz.2.1 hz.2.2.1 hz.2.2.2 (by rw [h50]; exact ht) h2 hm hp).imp ?_
  rintro v z ⟨e1, e2⟩
  subst e2
  have e := itM_row hR IsN.trial (t := t) (by rw [h50]; exact ht) h2 m
  rw [h7, h51, h50] at e
  have fr : TF y (itM y 49 (eN E) (eL E).length (eF E).length m) := fun c hc => by
    unfold TS at hc
    exact itM_n (by omega) (by omega) (by omega) (by omega) (by omega) (by omega) m
  refine ⟨?_, h.tf fr ?_ ?_ e, fr⟩
  · rw [e1, e, h50]
  · rw [itM_n (by decide) (by decide) (by decide) (by decide) (by decide) (by decide)]
  · rw [itM_n (by decide) (by decide) (by decide) (by decide) (by decide) (by decide)]
theorem t_nudges {sv : Int32} (h : TN y E w rd f) (ht : f 40 = nI t) (h2 : t ≤ 240) (hm : m < 2 ^ 30) (hp : p < 5) (hq : q < 5) : MM mX6_sleptWithNudges 5 0 0 [.ref 49, .int (nI p), .int (nI q), .int sv, .int (nI m)] y (fun v z => v = some (.int (sumR (nuP E w rd p q sv f (if m ≤ 240 - t then m else 240 - t + 1)) 25 (eN E) - sumR f 25 (eN E))) ∧ TF y z) NoT := by
  obtain ⟨hR, h7, h51, h50⟩ := id h
  have hz := hR.sz
  refine (c_X6_sleptWithNudges (c0 := 49) IsN.trial hR.2.1 hR.1 hz.1 hz.2.1 hz.2.2.1 hz.2.2.2 (by rw [h50]; exact ht) h2 hm hp hq).imp ?_
  rintro v z ⟨e1, e2⟩
  subst e2
  have e := nuX_row (p := p) (sv := sv) hR IsN.trial hq (t := t) (by rw [h50]; exact ht) h2 (if m ≤ 240 - t then m else 240 - t + 1)
  rw [h7, h51, h50] at e
  refine ⟨?_, fun c hc => ?_⟩
  · rw [e1, e, h50]
  · unfold TS at hc
    exact nuX_n (by omega) (by omega) (by omega) (by omega) (by omega) (by omega) _
theorem t_cars {s q9 loud : Int32} (h : TN y E w rd f) (ht : f 40 = nI t) (h2 : t ≤ 240) (hm : m < 2 ^ 30) : MM mX6_passWithCars 5 0 0 [.ref 49, .int s, .int q9, .int loud, .int (nI m)] y (fun v z => v = none ∧ TN z E w rd (pcP E w rd s q9 loud f m) ∧ z 49 8 = y 49 8 + nI (carN s q9 m) ∧ TF y z) NoT := by
  obtain ⟨hR, h7, h51, h50⟩ := id h
  have hz := hR.sz
  refine (c_X6_passWithCars (c0 := 49) IsN.trial hR.2.1 hR.1 hz.1 hz.2.1 hz.2.2.1 hz.2.2.2 (by rw [h50]; exact ht) h2 hm).imp ?_
  rintro v z ⟨e1, e2⟩
  subst e2
  obtain ⟨e, e7, e8⟩ := pcX_row (s := s) (q := q9) (loud := loud) hR IsN.trial (t := t) (by rw [h50]; exact ht) h2 m
  rw [h7, h51, h50] at e
  have fr : TF y (pcX y 49 (eN E) (eL E).length (eF E).length s q9 loud m) := fun c hc => by
    unfold TS at hc
    exact pcX_n (by omega) (by omega) (by omega) (by omega) (by omega) (by omega) (by omega) m
  refine ⟨e1, h.tf fr e7 ?_ e, e8, fr⟩
  rw [pcX_n (by decide) (by decide) (by decide) (by decide) (by decide) (by decide) (by decide)]
theorem t_hearAll (h : TN y E w rd f) (ht : f 40 = nI t) (h2 : t ≤ 240) : MM mX6_hearAll 3 0 0 [.ref 49, .int k] y (fun v z => v = none ∧ TN z E w rd f ∧ (∀ p, p < eN E → z 53 p = heaP E w k f p) ∧ (∀ p q, q < eN E → reachV z 49 p q = rchP E w f p q) ∧ TF y z) NoT := by
  obtain ⟨hR, h7, h51, h50⟩ := id h
  have hz := hR.sz
  refine (c_X6_hearAll (c0 := 49) IsN.trial hR.2.1 hR.1 hz.1 hz.2.1 (by rw [h50]; exact ht) h2).imp ?_
  rintro v z ⟨e1, e2⟩
  subst e2
  have e := hearX_row (k := k) hR IsN.trial (t := t) (by rw [h50]; exact ht) h2
  rw [h7, h50] at e
  have e0 : hearX y 49 (eN E) (eL E).length t k 49 = y 49 := hearX_n (by decide) (by decide) (by decide) (by decide)
  have e50 : hearX y 49 (eN E) (eL E).length t k 50 = f := by rw [hearX_n (by decide) (by decide) (by decide) (by decide)]; exact h50
  have fr : TF y (hearX y 49 (eN E) (eL E).length t k) := fun c hc => by
    unfold TS at hc
    exact hearX_n (by omega) (by omega) (by omega) (by omega)
  refine ⟨e1, h.tf fr (by rw [e0]) ?_ e50, e, fun p q hq => ?_, fr⟩
  · rw [hearX_n (by decide) (by decide) (by decide) (by decide)]
  · have e52 : hearX y 49 (eN E) (eL E).length t k 52 q = snoP E f q := by
      unfold hearX
      rw [hdX_n (by decide), show (52 : Nat) = 49 + 3 from rfl, snX_row hR IsN.trial (eN E) (Nat.le_refl _) q hq, h50]
    unfold reachV rchP
    rw [show (49 : Nat) + 1 = 50 from rfl, show (49 : Nat) + 3 = 52 from rfl, e50, e52, e0, h7]
theorem t_reaching (h5 : p < 5) (hq : q < eN E) (hn : eN E ≤ 5) (hr : ∀ p q, q < eN E → reachV y 49 p q = rchP E w f p q) : MM mX6_reaching 1 0 0 [.ref 49, .int (nI p), .int (nI q)] y (fun v z => v = some (.int (rchP E w f p q)) ∧ z = y) NoT := by
  rw [← hr p q hq]
  exact c_X6_reaching IsN.trial h5 (by omega)
theorem lawTF {x : XS} {cg sz : Nat} {g : Nat → Int32} (hg : cg = 54) : TF x (lawx (xr x cg g) 24 cg sz) := fun c hc => by
  unfold TS at hc
  rw [lawx_n (by omega), xr_n (by omega)]
theorem t_loudOf (h : TN y E w rd f) (hp : p < eN E) : MM mX6_loudOf 2 0 0 [.ref 49, .int (nI p)] y (fun v z => v = some (.int (louP E f p)) ∧ TF y z) NoT := by
  have hz := h.1.sz
  refine (c_X6_loudOf (c0 := 49) IsN.trial (Nat.lt_of_lt_of_le hp h.1.2.1) hz.1 hz.2.1).imp ?_
  rintro v z ⟨e1, e2⟩
  subst e2
  refine ⟨?_, lawTF rfl⟩
  rw [e1, fct_loud h.1 hp IsN.trial, show (49 : Nat) + 1 = 50 from rfl, h.2.2.2]
theorem t_loudHad {sn : Int32} (hR : RE y E) (hp : p < eN E) : MM mX6_loudHad 2 0 0 [.ref 49, .int (nI p), .int sn, .int (nI m)] y (fun v z => v = some (.int (hadP E p sn m)) ∧ TF y z) NoT := by
  have hz := hR.sz
  refine (c_X6_loudHad (c0 := 49) IsN.trial (Nat.lt_of_lt_of_le hp hR.2.1) hz.1 hz.2.1).imp ?_
  rintro v z ⟨e1, e2⟩
  subst e2
  refine ⟨?_, lawTF rfl⟩
  rw [e1, fct_had hR hp IsN.trial]
theorem t_loudBy {sn wi co de ti : Int32} (hR : RE y E) : MM mX6_loudBy 2 0 0 [.ref 49, .int sn, .int wi, .int co, .int de, .int ti] y (fun v z => v = some (.int (bnd (LV (eL E) (fct sn wi co de ti (nI 0) (nI 0) (nI 0) (nI 0))))) ∧ TF y z) NoT := by
  have hz := hR.sz
  refine (c_X6_loudBy (c0 := 49) IsN.trial hz.1 hz.2.1).imp ?_
  rintro v z ⟨e1, e2⟩
  subst e2
  refine ⟨?_, lawTF rfl⟩
  rw [e1, fct_by hR IsN.trial]
theorem t_settle {sv : Int32} (h : TN y E w rd f) : MM mX6_settle 1 0 0 [.ref 49, .int sv] y (fun v z => v = some (.int (bI (setl f sv (eN E)).1)) ∧ TN z E w rd (setl f sv (eN E)).2 ∧ TF y z) NoT := by
  refine (c_X6_settle (c0 := 49) (sv := sv) IsN.trial h.1.2.1 h.1.1).imp ?_
  rintro v z ⟨e1, e2⟩
  subst e2
  have fr : TF y (xr y (49 + 1) (setl (y (49 + 1)) sv (eN E)).2) := fun c hc => by
    unfold TS at hc
    exact xr_n (by omega)
  have h50 : y (49 + 1) = f := h.2.2.2
  refine ⟨by rw [e1, h50], h.tf fr rfl rfl ?_, fr⟩
  rw [xr_s, h50]
theorem t_keepAwake {k9 : Int32} (h : TN y E w rd f) (hp : p < 5) : MM mX6_keepAwake 0 0 0 [.ref 49, .int (nI p), .int k9] y (fun v z => v = none ∧ TN z E w (upd rd p (f 40 + k9)) f ∧ TF y z) NoT := by
  refine (c_X6_keepAwake (c0 := 49) (k := k9) IsN.trial hp).imp ?_
  rintro v z ⟨e1, e2⟩
  subst e2
  have fr : TF y (xu y (49 + 2) p (y (49 + 1) 40 + k9)) := fun c hc => by
    unfold TS at hc
    exact xu_n (by omega)
  refine ⟨e1, ⟨h.1.tf fr, h.2.1, ?_, h.2.2.2⟩, fr⟩
  show upd (y 51) p (y 50 40 + k9) = _
  rw [h.2.2.1, h.2.2.2]
theorem t_sleptSince {f0 : Nat → Int32} (h : TN y E w rd f) (h0 : y 44 = f0) (hp : p < 5) : MM mX6_sleptSince 0 0 0 [.ref 49, .ref 43, .int (nI p)] y (fun v z => v = some (.int (f (25 + p) - f0 (25 + p))) ∧ z = y) NoT := by
  rw [← h.2.2.2, ← h0]
  exact c_X6_sleptSince IsN.trial (Or.inl rfl) hp
end Trial
