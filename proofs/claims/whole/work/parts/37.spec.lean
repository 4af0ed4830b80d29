/-! THE SPEC that class and reference are tied to. LAWS: lists of codes, and what they come to -/
def evS (g : Nat → Int32) (c : Nat) (st : List Int32) : Option (List Int32) :=
  if c < 2000 then some ((if c < 1000 then nI c else g (c - 1000)) :: st) else match st with
  | b :: a :: r => some (joinC (nI c) a b :: r)
  | _ => none
def evL (g : Nat → Int32) : List Nat → List Int32 → Option (List Int32)
  | [], st => some st
  | c :: l, st => match evS g c st with
    | some st1 => evL g l st1
    | none => none
def LV (l : List Nat) (g : Nat → Int32) : Int32 := match evL g l [] with
  | some (v :: _) => v
  | _ => 0
/-- from h values on the stack to h' of them, never more than 32 -/
def RH : List Nat → Nat → Nat → Prop
  | [], h, h' => h = h'
  | c :: l, h, h' => if c < 2000 then h + 1 ≤ 32 ∧ RH l (h + 1) h' else 2 ≤ h ∧ RH l (h - 1) h'
def CV (l : List Nat) : Prop := ∀ c ∈ l, c < 1009 ∨ (2000 ≤ c ∧ c < 2006)
def LW (l : List Nat) : Prop := l.length ≤ 150 ∧ 0 < l.length ∧ RH l 0 1 ∧ CV l
theorem RH.app : ∀ (l1 l2 : List Nat) (a b c : Nat), RH l1 a b → RH l2 b c → RH (l1 ++ l2) a c
  | [], l2, a, b, c, h1, h2 => by
    have h1 : a = b := h1
    subst h1
    exact h2
  | q :: l, l2, a, b, c, h1, h2 => by
    show if q < 2000 then _ else _
    have h1 : if q < 2000 then a + 1 ≤ 32 ∧ RH l (a + 1) b else 2 ≤ a ∧ RH l (a - 1) b := h1
    by_cases hq : q < 2000
    · rw [if_pos hq] at h1 ⊢
      exact ⟨h1.1, RH.app l l2 _ b c h1.2 h2⟩
    · rw [if_neg hq] at h1 ⊢
      exact ⟨h1.1, RH.app l l2 _ b c h1.2 h2⟩
theorem CV.app {l1 l2 : List Nat} (h1 : CV l1) (h2 : CV l2) : CV (l1 ++ l2) := fun c hc => (List.mem_append.mp hc).elim (h1 c) (h2 c)
theorem CV.cons {c : Nat} {l : List Nat} (h : CV (c :: l)) : (c < 1009 ∨ (2000 ≤ c ∧ c < 2006)) ∧ CV l := ⟨h c List.mem_cons_self, fun d hd => h d (List.mem_cons_of_mem _ hd)⟩
theorem evL_congr {g g' : Nat → Int32} (hg : ∀ j, j < 9 → g j = g' j) : ∀ (l : List Nat) (st : List Int32), CV l → evL g l st = evL g' l st
  | [], _, _ => rfl
  | c :: l, st, h => by
    have e : evS g c st = evS g' c st := by
      unfold evS
      by_cases h1 : c < 2000
      · rw [if_pos h1, if_pos h1]
        by_cases h2 : c < 1000
        · rw [if_pos h2, if_pos h2]
        · rw [if_neg h2, if_neg h2, hg (c - 1000) (by have := h.cons.1; omega)]
      · rw [if_neg h1, if_neg h1]
    show (match evS g c st with | some st1 => evL g l st1 | none => none) = (match evS g' c st with | some st1 => evL g' l st1 | none => none)
    rw [e]
    cases evS g' c st with
    | none => rfl
    | some st1 => exact evL_congr hg l st1 h.cons.2
theorem LV_congr {g g' : Nat → Int32} {l : List Nat} (hg : ∀ j, j < 9 → g j = g' j) (h : CV l) : LV l g = LV l g' := by
  unfold LV
  rw [evL_congr hg l [] h]
/-- the lowest h places of a row, as a stack -/
def stk (s : Nat → Int32) : Nat → List Int32
  | 0 => []
  | h + 1 => s h :: stk s h
theorem stk_upd {s : Nat → Int32} {k : Nat} {v : Int32} : ∀ h, h ≤ k → stk (upd s k v) h = stk s h
  | 0, _ => rfl
  | h + 1, hk => by
    show upd s k v h :: stk (upd s k v) h = s h :: stk s h
    rw [pk_un (by omega), stk_upd h (by omega)]
theorem pushC_v {g : Nat → Int32} {c : Nat} (h : c < 1009) : pushC g (nI c) = if c < 1000 then nI c else g (c - 1000) := by
  unfold pushC
  by_cases h1 : c < 1000
  · rw [if_pos h1, if_pos (pk_sneg (by omega) h1)]
  · rw [if_neg h1, pk_sub (by omega), if_neg (nI_pos (by omega)), if_neg (nI_ge (by omega) (by omega)), nI_clamp (by omega)]
theorem runC_ev {code g s0 : Nat → Int32} : ∀ (l : List Nat) (i h h' : Nat) (s : Nat → Int32), runC code g s0 i = (h, s) → (∀ j q, l[j]? = some q → code (i + j) = nI q) → CV l → RH l h h' → ∃ s', runC code g s0 (i + l.length) = (h', s') ∧ evL g l (stk s h) = some (stk s' h')
  | [], i, h, h', s, e, _, _, hr => by
    have hr : h = h' := hr
    subst hr
    exact ⟨s, e, rfl⟩
  | c :: l, i, h, h', s, e, hc, hv, hr => by
    have c0 : code i = nI c := hc 0 c rfl
    have hr : if c < 2000 then h + 1 ≤ 32 ∧ RH l (h + 1) h' else 2 ≤ h ∧ RH l (h - 1) h' := hr
    have hcl : ∀ j q, l[j]? = some q → code (i + 1 + j) = nI q := fun j q hq => by
      rw [show i + 1 + j = i + (j + 1) by omega]
      exact hc (j + 1) q hq
    have e1 : runC code g s0 (i + 1) = stepC g (nI c) (h, s) := by
      show stepC g (code i) (runC code g s0 i) = _
      rw [c0, e]
    have hlen : i + (c :: l).length = i + 1 + l.length := by rw [List.length_cons]; omega
    by_cases h1 : c < 2000
    · rw [if_pos h1] at hr
      have hc9 : c < 1009 := by have := hv.cons.1; omega
      have e2 : stepC g (nI c) (h, s) = (h + 1, upd s h (pushC g (nI c))) := by
        unfold stepC
        rw [if_pos (nI_lt h1 (by omega)), if_neg (show ¬ 32 ≤ h by omega)]
      obtain ⟨s', a1, a2⟩ := runC_ev l (i + 1) (h + 1) h' _ (e1.trans e2) hcl hv.cons.2 hr.2
      refine ⟨s', by rw [hlen]; exact a1, ?_⟩
      show (match evS g c (stk s h) with | some st1 => evL g l st1 | none => none) = _
      unfold evS
      rw [if_pos h1]
      show evL g l _ = _
      rw [← a2]
      show _ = evL g l (upd s h _ h :: stk (upd s h _) h)
      rw [pk_us, stk_upd h (Nat.le_refl h), pushC_v hc9]
    · rw [if_neg h1] at hr
      obtain ⟨k, rfl⟩ : ∃ k, h = k + 2 := ⟨h - 2, by omega⟩
      have e2 : stepC g (nI c) (k + 2, s) = (k + 1, upd s k (joinC (nI c) (s k) (s (k + 1)))) := by
        unfold stepC
        rw [if_neg (nI_nlt (by omega) (by have := hv.cons.1; omega)), if_neg (show ¬ k + 2 < 2 by omega)]
        rfl
      obtain ⟨s', a1, a2⟩ := runC_ev l (i + 1) (k + 1) h' _ (e1.trans e2) hcl hv.cons.2 hr.2
      refine ⟨s', by rw [hlen]; exact a1, ?_⟩
      show (match evS g c (s (k + 1) :: s k :: stk s k) with | some st1 => evL g l st1 | none => none) = _
      unfold evS
      rw [if_neg h1]
      show evL g l _ = _
      rw [← a2]
      show _ = evL g l (upd s k _ k :: stk (upd s k _) k)
      rw [pk_us, stk_upd k (Nat.le_refl k)]
theorem valC_LV {code g s0 : Nat → Int32} {l : List Nat} (hl : LW l) (hc : ∀ i q, l[i]? = some q → code i = nI q) : valC code g s0 l.length = LV l g := by
  obtain ⟨s', a1, a2⟩ := runC_ev (code := code) (g := g) (s0 := s0) l 0 0 1 s0 rfl (fun j q hq => by rw [Nat.zero_add]; exact hc j q hq) hl.2.2.2 hl.2.2.1
  rw [Nat.zero_add] at a1
  unfold valC LV
  rw [a1]
  have a2 : evL g l [] = some [s' 0] := a2
  rw [a2]
  rfl
def LCo (x : XS) (c : Nat) (l : List Nat) : Prop := LW l ∧ x c 1 = nI l.length ∧ ∀ i q, l[i]? = some q → x (c + 1) i = nI q
/-! WHAT NIGHTS RUN ON: how many sleepers, the house's rows by kind and sleeper, strikes by minute, over, wall, the two laws -/
abbrev NE : Type := Nat × (Nat → Nat → Int32) × (Nat → Int32) × Int32 × Int32 × List Nat × List Nat
abbrev eN (E : NE) : Nat := E.1
abbrev eH (E : NE) : Nat → Nat → Int32 := E.2.1
abbrev eC (E : NE) : Nat → Int32 := E.2.2.1
abbrev eO (E : NE) : Int32 := E.2.2.2.1
abbrev eW (E : NE) : Int32 := E.2.2.2.2.1
abbrev eL (E : NE) : List Nat := E.2.2.2.2.2.1
abbrev eF (E : NE) : List Nat := E.2.2.2.2.2.2
def RE (x : XS) (E : NE) : Prop := x 3 0 = nI (eN E) ∧ eN E ≤ 5 ∧ (∀ k, k < 8 → ∀ p, p < eN E → x (4 + k) p = eH E k p) ∧ (∀ m, m < 60 → x 12 m = eC E m) ∧ x 3 12 = eO E ∧ x 3 11 = eW E ∧ LCo x 24 (eL E) ∧ LCo x 27 (eF E)
theorem RE.fr {x y : XS} {E : NE} (h : RE x E) (hc : ∀ c, (3 ≤ c ∧ c ≤ 12) ∨ c = 24 ∨ c = 25 ∨ c = 27 ∨ c = 28 → y c = x c) : RE y E := by
  obtain ⟨h1, h2, h3, h4, h5, h6, h7, h8⟩ := h
  refine ⟨?_, h2, fun k hk p hp => ?_, fun m hm => ?_, ?_, ?_, ⟨h7.1, ?_, fun i q hq => ?_⟩, ⟨h8.1, ?_, fun i q hq => ?_⟩⟩
  · rw [hc 3 (by omega)]; exact h1
  · rw [hc (4 + k) (by omega)]; exact h3 k hk p hp
  · rw [hc 12 (by omega)]; exact h4 m hm
  · rw [hc 3 (by omega)]; exact h5
  · rw [hc 3 (by omega)]; exact h6
  · rw [hc 24 (by omega)]; exact h7.2.1
  · rw [hc 25 (by omega)]; exact h7.2.2 i q hq
  · rw [hc 27 (by omega)]; exact h8.2.1
  · rw [hc 28 (by omega)]; exact h8.2.2 i q hq
/-- what is given to a law -/
def fct (sn wi co de ti he li mi aw : Int32) (j : Nat) : Int32 := if j = 0 then sn else if j = 1 then wi else if j = 2 then co else if j = 3 then de else if j = 4 then ti else if j = 5 then he else if j = 6 then li else if j = 7 then mi else aw
def louG (E : NE) (p : Nat) (sn de ti mi : Int32) : Int32 := bnd (LV (eL E) (fct sn (eH E 4 p) (eH E 5 p) de ti (nI 0) (eH E 1 p) mi (nI 0)))
def louP (E : NE) (f : Nat → Int32) (p : Nat) : Int32 := louG E p (eH E 2 p) (f (10 + p)) (f (0 + p)) (f 40)
def hadP (E : NE) (p : Nat) (sn : Int32) (m : Nat) : Int32 := louG E p sn (imin (nI 9) (nI (m + 1))) (imax (nI 0) (eH E 0 p - nI m)) (nI m)
def falP (E : NE) (f : Nat → Int32) (p : Nat) (he : Int32) : Bool := decide (0 < LV (eF E) (fct (eH E 2 p) (eH E 4 p) (eH E 5 p) (nI 0) (f (0 + p)) he (eH E 1 p) (f 40) (f (30 + p))))
def snoP (E : NE) (f : Nat → Int32) (o : Nat) : Int32 := if asl f o && decide (f (15 + o) = 0) then louP E f o else nI 0
def rchP (E : NE) (w : Int32) (f : Nat → Int32) (p o : Nat) : Int32 := if p = o then nI 0 else if f (5 + p) = f (5 + o) then snoP E f o else imax (nI 0) (snoP E f o - w)
def smP (F : Nat → Int32) : Nat → Int32
  | 0 => 0
  | j + 1 => smP F j + F j
def heaP (E : NE) (w k : Int32) (f : Nat → Int32) (p : Nat) : Int32 := imax (nI 0) (eC E ((f 40).toNatClampNeg % 60) + k + smP (rchP E w f p) (eN E) - f (35 + p))
def slpR (li ov : Int32) (f : Nat → Int32) (p : Nat) (hears : Int32) : Nat → Int32 :=
  if hears ≤ li + f (10 + p) then
    let f1 := upd f (10 + p) (imin (nI 9) (f (10 + p) + nI 1))
    let f2 := upd f1 (0 + p) (imax (nI 0) (f1 (0 + p) - nI 1))
    let f3 := upd f2 (25 + p) (f2 (25 + p) + nI 1)
    if f3 (15 + p) = nI 1 then
      let f4 := upd f3 (20 + p) (f3 (20 + p) + nI 1)
      if f4 (20 + p) < ov then f4 else upd f4 (15 + p) (nI 0)
    else f3
  else wakeR f p
/-- one of them in a minute -/
def oneP (E : NE) (he rd : Nat → Int32) (f : Nat → Int32) (p : Nat) : Nat → Int32 := if asl f p then slpR (eH E 1 p) (eO E) f p (he p) else stayR f p (if f 40 < rd p then false else falP E f p (he p))
def mnP (E : NE) (he rd : Nat → Int32) (f : Nat → Int32) : Nat → Nat → Int32
  | 0 => f
  | i + 1 => oneP E he rd (mnP E he rd f i) i
/-- a minute: wall w, a car k loud, who is kept awake up to when by rd -/
def minP (E : NE) (w : Int32) (rd : Nat → Int32) (k : Int32) (f : Nat → Int32) : Nat → Int32 := if f 40 < nI 240 then upd (mnP E (heaP E w k f) rd f (eN E)) 40 (mnP E (heaP E w k f) rd f (eN E) 40 + nI 1) else f
def itP (E : NE) (w : Int32) (rd f : Nat → Int32) : Nat → Nat → Int32
  | 0 => f
  | i + 1 => minP E w rd (nI 0) (itP E w rd f i)
def nuyP (p q i : Nat) (sv : Int32) (f : Nat → Int32) : Nat → Int32 := if i < 6 then (if bitV sv i = nI 1 then nudgeR f p q else f) else f
def nuP (E : NE) (w : Int32) (rd : Nat → Int32) (p q : Nat) (sv : Int32) (f : Nat → Int32) : Nat → Nat → Int32
  | 0 => f
  | i + 1 => minP E w rd (nI 0) (nuyP p q i sv (nuP E w rd p q sv f i))
def pcP (E : NE) (w : Int32) (rd : Nat → Int32) (s q loud : Int32) (f : Nat → Int32) : Nat → Nat → Int32
  | 0 => f
  | i + 1 => minP E w rd (if carB s q i then loud else nI 0) (pcP E w rd s q loud f i)
def carN (s q : Int32) : Nat → Nat
  | 0 => 0
  | i + 1 => carN s q i + (if carB s q i then 1 else 0)
/-! the class's nights are these -/
theorem fct_loud {x : XS} {E : NE} {c0 p : Nat} (hR : RE x E) (hp : p < eN E) (hN : IsN c0) : bnd (lawv (gvLoud x c0 p) 24 (c0 + 5) (eL E).length) = louP E (x (c0 + 1)) p := by
  have hc := n_c hN
  unfold lawv louP louG
  have e1 : gvLoud x c0 p (24 + 1) = x 25 := gvLoud_n (by omega)
  rw [e1, valC_LV hR.2.2.2.2.2.2.1.1 hR.2.2.2.2.2.2.1.2.2]
  refine congrArg bnd (LV_congr (fun j hj => ?_) hR.2.2.2.2.2.2.1.1.2.2.2)
  have hrow := hR.2.2.1
  unfold gvLoud
  rw [xr_s]
  have r1 := hrow 1 (by decide) p hp
  have r2 := hrow 2 (by decide) p hp
  have r4 := hrow 4 (by decide) p hp
  have r5 := hrow 5 (by decide) p hp
  rcases (show j = 0 ∨ j = 1 ∨ j = 2 ∨ j = 3 ∨ j = 4 ∨ j = 5 ∨ j = 6 ∨ j = 7 ∨ j = 8 by omega) with rfl | rfl | rfl | rfl | rfl | rfl | rfl | rfl | rfl
  · exact r2
  · exact r4
  · exact r5
  · rfl
  · rfl
  · rfl
  · exact r1
  · rfl
  · rfl
theorem fct_had {x : XS} {E : NE} {c0 p m : Nat} {sn : Int32} (hR : RE x E) (hp : p < eN E) (hN : IsN c0) : bnd (lawv (gvHad x c0 p sn m) 24 (c0 + 5) (eL E).length) = hadP E p sn m := by
  have hc := n_c hN
  unfold lawv hadP louG
  have e1 : gvHad x c0 p sn m (24 + 1) = x 25 := xr_n (by omega)
  rw [e1, valC_LV hR.2.2.2.2.2.2.1.1 hR.2.2.2.2.2.2.1.2.2]
  refine congrArg bnd (LV_congr (fun j hj => ?_) hR.2.2.2.2.2.2.1.1.2.2.2)
  have hrow := hR.2.2.1
  unfold gvHad
  rw [xr_s]
  have r0 := hrow 0 (by decide) p hp
  have r1 := hrow 1 (by decide) p hp
  have r4 := hrow 4 (by decide) p hp
  have r5 := hrow 5 (by decide) p hp
  rcases (show j = 0 ∨ j = 1 ∨ j = 2 ∨ j = 3 ∨ j = 4 ∨ j = 5 ∨ j = 6 ∨ j = 7 ∨ j = 8 by omega) with rfl | rfl | rfl | rfl | rfl | rfl | rfl | rfl | rfl
  · rfl
  · exact r4
  · exact r5
  · rfl
  · show imax (nI 0) (x 4 p - nI m) = imax (nI 0) (eH E 0 p - nI m)
    rw [show x 4 p = eH E 0 p from r0]
  · rfl
  · exact r1
  · rfl
  · rfl
theorem fct_by {x : XS} {E : NE} {c0 : Nat} {sn wi co de ti : Int32} (hR : RE x E) (hN : IsN c0) : bnd (lawv (gvBy x c0 sn wi co de ti) 24 (c0 + 5) (eL E).length) = bnd (LV (eL E) (fct sn wi co de ti (nI 0) (nI 0) (nI 0) (nI 0))) := by
  have hc := n_c hN
  unfold lawv
  have e1 : gvBy x c0 sn wi co de ti (24 + 1) = x 25 := xr_n (by omega)
  rw [e1, valC_LV hR.2.2.2.2.2.2.1.1 hR.2.2.2.2.2.2.1.2.2]
  refine congrArg bnd (LV_congr (fun j hj => ?_) hR.2.2.2.2.2.2.1.1.2.2.2)
  unfold gvBy
  rw [xr_s]
  rcases (show j = 0 ∨ j = 1 ∨ j = 2 ∨ j = 3 ∨ j = 4 ∨ j = 5 ∨ j = 6 ∨ j = 7 ∨ j = 8 by omega) with rfl | rfl | rfl | rfl | rfl | rfl | rfl | rfl | rfl <;> rfl
theorem fct_fall {x : XS} {E : NE} {c0 p : Nat} (hR : RE x E) (hp : p < eN E) (hN : IsN c0) : decide (0 < lawv (gvFall x c0 p) 27 (c0 + 5) (eF E).length) = falP E (x (c0 + 1)) p (x (c0 + 4) p) := by
  have hc := n_c hN
  unfold lawv falP
  have e1 : gvFall x c0 p (27 + 1) = x 28 := gvFall_n (by omega)
  rw [e1, valC_LV hR.2.2.2.2.2.2.2.1 hR.2.2.2.2.2.2.2.2.2]
  have e2 : LV (eF E) (gvFall x c0 p (c0 + 5)) = LV (eF E) (fct (eH E 2 p) (eH E 4 p) (eH E 5 p) (nI 0) (x (c0 + 1) (0 + p)) (x (c0 + 4) p) (eH E 1 p) (x (c0 + 1) 40) (x (c0 + 1) (30 + p))) := by
    refine LV_congr (fun j hj => ?_) hR.2.2.2.2.2.2.2.1.2.2.2
    have hrow := hR.2.2.1
    unfold gvFall
    rw [xr_s]
    have r1 := hrow 1 (by decide) p hp
    have r2 := hrow 2 (by decide) p hp
    have r4 := hrow 4 (by decide) p hp
    have r5 := hrow 5 (by decide) p hp
    rcases (show j = 0 ∨ j = 1 ∨ j = 2 ∨ j = 3 ∨ j = 4 ∨ j = 5 ∨ j = 6 ∨ j = 7 ∨ j = 8 by omega) with rfl | rfl | rfl | rfl | rfl | rfl | rfl | rfl | rfl
    · exact r2
    · exact r4
    · exact r5
    · rfl
    · rfl
    · rfl
    · exact r1
    · rfl
    · rfl
  rw [e2]
