/-! THE CLASS'S NIGHTS, by their rows -/
theorem asl_congr {f g : Nat → Int32} {p : Nat} (h : f (10 + p) = g (10 + p)) : asl f p = asl g p := by unfold asl; rw [h]
theorem snX_row {x : XS} {E : NE} {c0 : Nat} (hR : RE x E) (hN : IsN c0) : ∀ i, i ≤ eN E → ∀ j, j < i → snX x c0 (eL E).length i (c0 + 3) j = snoP E (x (c0 + 1)) j
  | 0, _, j, hj => by omega
  | i + 1, hi, j, hj => by
    have hc := n_c hN
    have ih := snX_row hR hN i (by omega) j
    have e1 : snX x c0 (eL E).length i (c0 + 1) = x (c0 + 1) := snX_n (by omega) (by omega) (by omega) i
    have hR1 : RE (snX x c0 (eL E).length i) E := hR.fr (fun c hc2 => snX_n (by omega) (by omega) (by omega) i)
    have fl := fct_loud hR1 (show i < eN E by omega) hN
    rw [e1] at fl
    unfold snX
    rw [e1]
    by_cases hb : (asl (x (c0 + 1)) i && decide (x (c0 + 1) (15 + i) = 0)) = true
    · rw [if_pos hb]
      by_cases hji : j = i
      · subst hji
        rw [xu_s, fl]
        unfold snoP
        rw [if_pos hb]
      · rw [xu_k hji, lawx_n (by omega), gvLoud_n (by omega)]
        exact ih (by omega)
    · rw [if_neg hb]
      by_cases hji : j = i
      · subst hji
        rw [xu_s]
        unfold snoP
        rw [if_neg hb]
      · rw [xu_k hji]
        exact ih (by omega)
theorem smX_row {y : XS} {E : NE} {c0 p : Nat} {w ev : Int32} {f : Nat → Int32} (h1 : y (c0 + 1) = f) (h3 : ∀ j, j < eN E → y (c0 + 3) j = snoP E f j) (h7 : y c0 7 = w) : ∀ j, j ≤ eN E → smX y c0 p ev j = ev + smP (rchP E w f p) j
  | 0, _ => by
    show ev = ev + 0
    rw [Int32.add_zero]
  | j + 1, hj => by
    have ih := smX_row (ev := ev) (p := p) h1 h3 h7 j (by omega)
    show smX y c0 p ev j + reachV y c0 p j = ev + (smP (rchP E w f p) j + rchP E w f p j)
    rw [ih, Int32.add_assoc]
    unfold reachV rchP
    rw [h1, h3 j (by omega), h7]
theorem hdX_row {y : XS} {E : NE} {c0 : Nat} {w ev : Int32} {f : Nat → Int32} (hN : IsN c0) (h1 : y (c0 + 1) = f) (h3 : ∀ j, j < eN E → y (c0 + 3) j = snoP E f j) (h7 : y c0 7 = w) : ∀ i j, j < i → hdX y c0 ev (eN E) i (c0 + 4) j = imax (nI 0) (ev + smP (rchP E w f j) (eN E) - f (35 + j))
  | 0, j, hj => by omega
  | i + 1, j, hj => by
    have hc := n_c hN
    have e1 : hdX y c0 ev (eN E) i (c0 + 1) = f := by rw [hdX_n (by omega)]; exact h1
    have e3 : ∀ j, j < eN E → hdX y c0 ev (eN E) i (c0 + 3) j = snoP E f j := fun j hj => by rw [hdX_n (by omega)]; exact h3 j hj
    have e7 : hdX y c0 ev (eN E) i c0 7 = w := by rw [hdX_n (by omega)]; exact h7
    unfold hdX
    by_cases hji : j = i
    · subst hji
      rw [xu_s, smX_row e1 e3 e7 _ (Nat.le_refl _), e1]
    · rw [xu_k hji]
      exact hdX_row hN h1 h3 h7 i j (by omega)
theorem hearX_row {x : XS} {E : NE} {c0 t : Nat} {k : Int32} (hR : RE x E) (hN : IsN c0) (ht : x (c0 + 1) 40 = nI t) (h2 : t ≤ 240) : ∀ p, p < eN E → hearX x c0 (eN E) (eL E).length t k (c0 + 4) p = heaP E (x c0 7) k (x (c0 + 1)) p := by
  intro p hp
  have hc := n_c hN
  unfold hearX heaP
  rw [hdX_row (w := x c0 7) (f := x (c0 + 1)) hN (snX_n (by omega) (by omega) (by omega) _) (snX_row hR hN (eN E) (Nat.le_refl _)) (by rw [snX_n (by omega) (by omega) (by omega)]) (eN E) p hp]
  rw [ht, nI_clamp (by omega), snX_n (by omega) (by omega) (by omega), hR.2.2.2.1 (t % 60) (by omega)]
theorem sleepR_slp (x : XS) (f : Nat → Int32) (p : Nat) (h : Int32) : sleepR x f p h = slpR (x 5 p) (x 3 12) f p h := rfl
theorem mnX_row {y : XS} {E : NE} {c0 : Nat} {he rd f : Nat → Int32} (hR : RE y E) (hN : IsN c0) (h1 : y (c0 + 1) = f) (h2 : y (c0 + 2) = rd) (h4 : ∀ p, p < eN E → y (c0 + 4) p = he p) : ∀ i, i ≤ eN E → mnX y c0 (eF E).length i (c0 + 1) = mnP E he rd f i
  | 0, _ => h1
  | i + 1, hi => by
    have hc := n_c hN
    have ih := mnX_row hR hN h1 h2 h4 i (by omega)
    have hR1 : RE (mnX y c0 (eF E).length i) E := hR.fr (fun c hc2 => mnX_n (by omega) (by omega) (by omega) i)
    have e4 : mnX y c0 (eF E).length i (c0 + 4) i = he i := by rw [mnX_n (by omega) (by omega) (by omega)]; exact h4 i (by omega)
    have e2 : mnX y c0 (eF E).length i (c0 + 2) = rd := by rw [mnX_n (by omega) (by omega) (by omega)]; exact h2
    have e5 : mnX y c0 (eF E).length i 5 i = eH E 1 i := hR1.2.2.1 1 (by decide) i (by omega)
    have e3 : mnX y c0 (eF E).length i 3 12 = eO E := hR1.2.2.2.2.1
    have ff := fct_fall hR1 (show i < eN E by omega) hN
    unfold mnX mnP oneP
    rw [ih] at ff ⊢
    rw [e4] at ff ⊢
    by_cases ha : asl (mnP E he rd f i) i = true
    · rw [if_pos ha, if_pos ha, xr_s, sleepR_slp, e5, e3]
    · rw [if_neg ha, if_neg ha]
      unfold fosX
      rw [ih, e2]
      by_cases hr : mnP E he rd f i 40 < rd i
      · rw [if_pos hr, if_pos hr, xr_s]
      · rw [if_neg hr, if_neg hr, xr_s, ff]
theorem MN_row {x : XS} {E : NE} {c0 t : Nat} {k : Int32} (hR : RE x E) (hN : IsN c0) (ht : x (c0 + 1) 40 = nI t) (h2 : t ≤ 240) : MN x c0 (eN E) (eL E).length (eF E).length k (c0 + 1) = minP E (x c0 7) (x (c0 + 2)) k (x (c0 + 1)) := by
  have hc := n_c hN
  unfold MN minP
  by_cases h : x (c0 + 1) 40 < nI 240
  · rw [if_pos h, if_pos h]
    rw [show (x (c0 + 1) 40).toNatClampNeg = t by rw [ht]; exact nI_clamp (by omega)]
    have hR1 : RE (hearX x c0 (eN E) (eL E).length t k) E := hR.fr (fun c hc2 => hearX_n (by omega) (by omega) (by omega) (by omega))
    have e := mnX_row (he := heaP E (x c0 7) k (x (c0 + 1))) (rd := x (c0 + 2)) (f := x (c0 + 1)) hR1 hN (hearX_n (by omega) (by omega) (by omega) (by omega)) (hearX_n (by omega) (by omega) (by omega) (by omega)) (hearX_row hR hN ht h2) (eN E) (Nat.le_refl _)
    unfold xu
    rw [xr_s, e]
  · rw [if_neg h, if_neg h]
theorem minP_40 {E : NE} {w k : Int32} {rd f : Nat → Int32} {t : Nat} (hn : eN E ≤ 5) (ht : f 40 = nI t) (h2 : t ≤ 240) : minP E w rd k f 40 = nI (if t < 240 then t + 1 else t) := by
  have hm : ∀ i, i ≤ 5 → mnP E (heaP E w k f) rd f i 40 = f 40 := by
    intro i
    induction i with
    | zero => intro _; rfl
    | succ i ih =>
      intro hi
      have ih := ih (by omega)
      show oneP E _ rd (mnP E _ rd f i) i 40 = _
      unfold oneP
      split
      · have e := sleepR_40 (x := fun c k => if c = 5 then eH E 1 k else if c = 3 then eO E else 0) (f := mnP E (heaP E w k f) rd f i) (p := i) (h := heaP E w k f i) (by omega)
        exact e.trans ih
      · exact (stayR_40 (by omega)).trans ih
  unfold minP
  by_cases h : t < 240
  · rw [if_pos h, if_pos (by rw [ht]; exact nI_lt h (by omega)), pk_us, hm _ hn, ht, nI_1' t]
  · rw [if_neg h, if_neg (by rw [ht]; exact nI_nlt (by omega) (by omega)), ht]
theorem itP_40 {E : NE} {w : Int32} {rd f : Nat → Int32} {t : Nat} (hn : eN E ≤ 5) (ht : f 40 = nI t) (h2 : t ≤ 240) : ∀ i, itP E w rd f i 40 = nI (min (t + i) 240)
  | 0 => by rw [show min (t + 0) 240 = t by omega]; exact ht
  | i + 1 => by
    have ih := itP_40 (w := w) (rd := rd) hn ht h2 i
    show minP E w rd (nI 0) (itP E w rd f i) 40 = _
    rw [minP_40 hn ih (by omega)]
    congr 1
    split <;> omega
theorem itM_row {x : XS} {E : NE} {c0 t : Nat} (hR : RE x E) (hN : IsN c0) (ht : x (c0 + 1) 40 = nI t) (h2 : t ≤ 240) : ∀ i, itM x c0 (eN E) (eL E).length (eF E).length i (c0 + 1) = itP E (x c0 7) (x (c0 + 2)) (x (c0 + 1)) i
  | 0 => rfl
  | i + 1 => by
    have hc := n_c hN
    have ih := itM_row hR hN ht h2 i
    have hR1 : RE (itM x c0 (eN E) (eL E).length (eF E).length i) E := hR.fr (fun c hc2 => itM_n (by omega) (by omega) (by omega) (by omega) (by omega) (by omega) i)
    have h40 := itM_40 (n := eN E) (sz := (eL E).length) (fz := (eF E).length) hc.1 hR.2.1 ht h2 i
    show MN (itM x c0 (eN E) (eL E).length (eF E).length i) c0 _ _ _ (nI 0) (c0 + 1) = minP _ _ _ _ _
    rw [MN_row hR1 hN h40 (by omega), ih, itM_n (by omega) (by omega) (by omega) (by omega) (by omega) (by omega), itM_n (by omega) (by omega) (by omega) (by omega) (by omega) (by omega)]
theorem nuX_row {x : XS} {E : NE} {c0 t p q : Nat} {sv : Int32} (hR : RE x E) (hN : IsN c0) (hq : q < 5) (ht : x (c0 + 1) 40 = nI t) (h2 : t ≤ 240) : ∀ i, nuX x c0 (eN E) (eL E).length (eF E).length p q sv i (c0 + 1) = nuP E (x c0 7) (x (c0 + 2)) p q sv (x (c0 + 1)) i
  | 0 => rfl
  | i + 1 => by
    have hc := n_c hN
    have ih := nuX_row (p := p) (sv := sv) hR hN hq ht h2 i
    have fr : ∀ c, c ≠ c0 + 1 → c ≠ c0 + 3 → c ≠ c0 + 4 → c ≠ c0 + 5 → c ≠ 26 → c ≠ 29 → nuY (nuX x c0 (eN E) (eL E).length (eF E).length p q sv i) c0 p q i sv c = x c := fun c a1 a2 a3 a4 a5 a6 => by rw [nuY_n a1, nuX_n a1 a2 a3 a4 a5 a6]
    have hR1 : RE (nuY (nuX x c0 (eN E) (eL E).length (eF E).length p q sv i) c0 p q i sv) E := hR.fr (fun c hc2 => fr c (by omega) (by omega) (by omega) (by omega) (by omega) (by omega))
    have h40 := nuX_40 (n := eN E) (sz := (eL E).length) (fz := (eF E).length) (p := p) (sv := sv) hc.1 hR.2.1 hq ht h2 i
    have e1 : nuY (nuX x c0 (eN E) (eL E).length (eF E).length p q sv i) c0 p q i sv (c0 + 1) = nuyP p q i sv (nuP E (x c0 7) (x (c0 + 2)) p q sv (x (c0 + 1)) i) := by
      rw [← ih]
      unfold nuY nuyP
      split
      · split
        · rw [xr_s]
        · rfl
      · rfl
    show MN (nuY _ c0 p q i sv) c0 _ _ _ (nI 0) (c0 + 1) = minP _ _ _ _ _
    rw [MN_row hR1 hN (t := min (t + i) 240) (by rw [nuY_40 hq]; exact h40) (by omega), e1, fr c0 (by omega) (by omega) (by omega) (by omega) (by omega) (by omega), fr (c0 + 2) (by omega) (by omega) (by omega) (by omega) (by omega) (by omega)]
theorem pcX_row {x : XS} {E : NE} {c0 t : Nat} {s q loud : Int32} (hR : RE x E) (hN : IsN c0) (ht : x (c0 + 1) 40 = nI t) (h2 : t ≤ 240) : ∀ i, pcX x c0 (eN E) (eL E).length (eF E).length s q loud i (c0 + 1) = pcP E (x c0 7) (x (c0 + 2)) s q loud (x (c0 + 1)) i ∧ pcX x c0 (eN E) (eL E).length (eF E).length s q loud i c0 7 = x c0 7 ∧ pcX x c0 (eN E) (eL E).length (eF E).length s q loud i c0 8 = x c0 8 + nI (carN s q i)
  | 0 => ⟨rfl, rfl, by show x c0 8 = x c0 8 + nI 0; rw [nI_0, Int32.add_zero]⟩
  | i + 1 => by
    have hc := n_c hN
    have ih := pcX_row (s := s) (q := q) (loud := loud) hR hN ht h2 i
    have fr : ∀ (v : Int32) c, c ≠ c0 → c ≠ c0 + 1 → c ≠ c0 + 3 → c ≠ c0 + 4 → c ≠ c0 + 5 → c ≠ 26 → c ≠ 29 → xu (pcX x c0 (eN E) (eL E).length (eF E).length s q loud i) c0 8 v c = x c := fun v c a0 a1 a2 a3 a4 a5 a6 => by rw [xu_n a0, pcX_n a0 a1 a2 a3 a4 a5 a6]
    have hR1 : ∀ v, RE (xu (pcX x c0 (eN E) (eL E).length (eF E).length s q loud i) c0 8 v) E := fun v => hR.fr (fun c hc2 => fr v c (by omega) (by omega) (by omega) (by omega) (by omega) (by omega) (by omega))
    have h40 := pcX_40 (n := eN E) (sz := (eL E).length) (fz := (eF E).length) (s := s) (q := q) (loud := loud) hc.1 hR.2.1 ht h2 i
    have e1 : ∀ v, xu (pcX x c0 (eN E) (eL E).length (eF E).length s q loud i) c0 8 v (c0 + 1) = pcP E (x c0 7) (x (c0 + 2)) s q loud (x (c0 + 1)) i := fun v => by rw [xu_n (by omega)]; exact ih.1
    have e7 : ∀ v, xu (pcX x c0 (eN E) (eL E).length (eF E).length s q loud i) c0 8 v c0 7 = x c0 7 := fun v => by rw [xu_k (by decide)]; exact ih.2.1
    refine ⟨?_, ?_, ?_⟩
    · show MN (xu _ c0 8 _) c0 _ _ _ _ (c0 + 1) = minP _ _ _ _ _
      rw [MN_row (hR1 _) hN (t := min (t + i) 240) (by rw [xu_n (by omega)]; exact h40) (by omega), e1, e7, fr _ (c0 + 2) (by omega) (by omega) (by omega) (by omega) (by omega) (by omega) (by omega)]
    · show MN (xu _ c0 8 _) c0 _ _ _ _ c0 7 = _
      rw [MN_n (by omega) (by omega) (by omega) (by omega) (by omega) (by omega), e7]
    · show MN (xu _ c0 8 _) c0 _ _ _ _ c0 8 = _ + nI (carN s q i + if carB s q i then 1 else 0)
      rw [MN_n (by omega) (by omega) (by omega) (by omega) (by omega) (by omega), xu_s, ih.2.2, ← nI_add, Int32.add_assoc]
      congr 2
      split <;> rfl
/-! pictures that agree where there are places -/
def csz (c : Nat) : Nat := match lay c with
  | .inl (_, t) => t.length
  | .inr (.inl n) => n
  | .inr (.inr _) => 0
def agr (x y : XS) : Prop := ∀ c k, k < csz c → x c k = y c k
theorem arrV_eq {cA : ClassId} {n : Nat} {f g : Nat → Value} (h : ∀ j, j < n → f j = g j) : arrV cA n f = arrV cA n g := by
  have e : (fun j : Fin n => f j.val) = (fun j : Fin n => g j.val) := funext (fun j => h j.val j.isLt)
  unfold arrV
  rw [e]
theorem Holds.agr {G : GG} {x y : XS} {H : Heap} (h : Holds G x H) (ha : agr x y) : Holds G y H := by
  intro c hc
  have h1 := h c hc
  have ha := ha c
  unfold csz at ha
  unfold ent at h1 ⊢
  cases hl : lay c with
  | inl q =>
    obtain ⟨ci, t⟩ := q
    rw [hl] at h1 ha
    have e : t.mapIdx (fv G y c) = t.mapIdx (fv G x c) := by
      apply List.ext_getElem?
      intro i
      rw [List.getElem?_mapIdx, List.getElem?_mapIdx]
      cases ht : t[i]? with
      | none => rfl
      | some o =>
        cases o with
        | none =>
          show some (Value.int (y c i)) = some (Value.int (x c i))
          rw [ha i ((List.getElem?_eq_some_iff.mp ht).1)]
        | some d => rfl
    show va_at (gD G) vwCl (gA G c, .inr (ci, t.mapIdx (fv G y c))) H
    rw [e]
    exact h1
  | inr q =>
    cases q with
    | inl n =>
      rw [hl] at h1 ha
      have h1 : H[gA G c]? = some (vp_cell (gC G 0) (n, .inl (x c))) := h1
      show H[gA G c]? = some (vp_cell (gC G 0) (n, .inl (y c)))
      rw [h1, vp_cell_i, vp_cell_i, arrV_eq (fun j hj => by rw [ha j hj])]
    | inr q =>
      rw [hl] at h1
      exact h1
section Agr
variable {M : MD} {R : Room} {mc ms : Nat} {Post : Option Value → XS → Prop} {PT : String → XS → Prop} {pc : Nat} {L : List (Nat × Value)} {st : List Value} {x : XS}
/-- any picture that agrees may go on -/
theorem PW.agr {x' : XS} (h : agr x x') (k : PW M R mc ms Post PT pc L st x') : PW M R mc ms Post PT pc L st x := fun p l e s m args below meth c G H locs ls C hH hS hL => k p l e s m args below meth c G H locs ls C (hH.agr h) hS hL
theorem PW.caseB {b : Bool} (ht : b = true → PW M R mc ms Post PT pc L (.int (bI true) :: st) x) (hf : b = false → PW M R mc ms Post PT pc L (.int (bI false) :: st) x) : PW M R mc ms Post PT pc L (.int (bI b) :: st) x := by
  cases b with
  | true => exact ht rfl
  | false => exact hf rfl
end Agr
/-- a contract's end, weaker; it may name any picture that agrees -/
theorem MM.post {M : MD} {d mc ms : Nat} {as : List Value} {x : XS} {Post Post' : Option Value → XS → Prop} {PT PT' : String → XS → Prop} (h : MM M d mc ms as x Post PT) (h1 : ∀ v y, Post v y → ∃ z, agr y z ∧ Post' v z) (h2 : ∀ E y, PT E y → ∃ z, agr y z ∧ PT' E z) : MM M d mc ms as x Post' PT' := by
  intro l G sz hl hI
  refine MetFree.mono (h l G sz hl hI) (fun _ _ q => q) (fun _ _ _ _ _ q => q) ?_
  intro a s o t _ hq
  rcases hq with ⟨⟨⟨v, y, e1, e2, e3⟩, e4⟩, e5⟩ | ⟨q, e1, E, ce, L, ⟨⟨y, e2, e3⟩, e4⟩, e5⟩
  · obtain ⟨z, z1, z2⟩ := h1 v y e2
    exact Or.inl ⟨⟨⟨v, z, e1, z2, e3.agr z1⟩, e4⟩, e5⟩
  · obtain ⟨z, z1, z2⟩ := h2 E y e2
    exact Or.inr ⟨q, e1, E, ce, L, ⟨⟨z, z2, e3.agr z1⟩, e4⟩, e5⟩
theorem agr.rfl {x : XS} : agr x x := fun _ _ _ => _root_.rfl
theorem MM.imp {M : MD} {d mc ms : Nat} {as : List Value} {x : XS} {Post Post' : Option Value → XS → Prop} (h : MM M d mc ms as x Post NoT) (h1 : ∀ v y, Post v y → Post' v y) : MM M d mc ms as x Post' NoT := h.post (fun v y q => ⟨y, agr.rfl, h1 v y q⟩) (fun _ y q => ⟨y, agr.rfl, q⟩)
