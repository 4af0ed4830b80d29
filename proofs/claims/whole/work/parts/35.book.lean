/-! WORK, carried out: all levels; what steps that were read are like -/
theorem carry_all {n sz fz z : Nat} {K O T : Nat → Nat} (hn : n ≤ 5) (hz5 : sz ≤ 150) (hf5 : fz ≤ 150) (hW : WI K O T z) : ∀ lev dp, dp + lev = 6 → ∀ i to y, CI n sz fz K O T z y → to ≤ z → i ≤ to → MM mX7_carryOut (6 + lev) 0 0 [.ref 39, .ref 43, .int (nI i), .int (nI to), .int (nI dp)] y (fun v x1 => v = none ∧ x1 = exCL n sz fz K O T lev i to y) NoT
  | 0, dp, hdp => fun i to y hC hto hft => c_X7_carryOut (d := 5) hn hz5 hf5 (by decide) (by omega) hW (Or.inl ⟨by omega, rfl⟩) hC hto hft
  | lev + 1, dp, hdp => fun i to y hC hto hft => by
    have ih := carry_all hn hz5 hf5 hW lev (dp + 1) (by omega)
    have z1 := c_X7_carryOut (d := 6 + lev) (inner := exCL n sz fz K O T lev) hn hz5 hf5 (by omega) (by omega) hW (Or.inr ⟨by omega, ih, fun i t s ht _ hs => exL_keep begC tickC (doitC n sz fz K O T) K O T (fun i hi hk => (hW.2 i hi).2.2.2 hk) (fun s hs hb => hs.tick hb) (fun i s hi hk hs => CI.doit hn hW hi hk hs) lev i t s ht hs⟩) hC hto hft
    rw [show 6 + (lev + 1) = 6 + lev + 1 by omega]
    exact z1
def WL (n : Nat) (l : List ST) : Prop := ∀ j q, l[j]? = some q → q.1 < 7 ∧ q.2.1 < 100 ∧ (q.1 ≠ 6 → q.2.1 < 5 ∧ (q.1 = 0 → q.2.2 < 5)) ∧ (q.1 = 6 → n + j + 1 ≤ q.2.2 ∧ q.2.2 ≤ n + l.length)
theorem WL.nil (n : Nat) : WL n [] := fun j q h => by simp at h
theorem WL.app {n : Nat} {l1 l2 : List ST} (h1 : WL n l1) (h2 : WL (n + l1.length) l2) : WL n (l1 ++ l2) := by
  intro j q h
  rw [List.length_append]
  by_cases hj : j < l1.length
  · rw [List.getElem?_append_left hj] at h
    have w := h1 j q h
    exact ⟨w.1, w.2.1, w.2.2.1, fun e => ⟨(w.2.2.2 e).1, by have := (w.2.2.2 e).2; omega⟩⟩
  · rw [List.getElem?_append_right (by omega)] at h
    have w := h2 _ q h
    exact ⟨w.1, w.2.1, w.2.2.1, fun e => ⟨by have := (w.2.2.2 e).1; omega, by have := (w.2.2.2 e).2; omega⟩⟩
theorem WL.one {n : Nat} {q : ST} (h : q.1 < 6 ∧ q.2.1 < 5 ∧ (q.1 = 0 → q.2.2 < 5)) : WL n [q] := by
  intro j r hr
  cases j with
  | zero =>
    injection hr with hr
    subst hr
    exact ⟨by omega, by omega, fun _ => h.2, fun e => by omega⟩
  | succ j => simp at hr
theorem WL.again {n t : Nat} {l : List ST} (ht : t < 100) (h : WL (n + 1) l) : WL n ((6, t, n + 1 + l.length) :: l) := by
  intro j r hr
  cases j with
  | zero =>
    injection hr with hr
    subst hr
    exact ⟨by show 6 < 7; decide, ht, fun e => absurd rfl e, fun _ => ⟨by show n + 0 + 1 ≤ n + 1 + l.length; omega, by show n + 1 + l.length ≤ n + (l.length + 1); omega⟩⟩
  | succ j =>
    have w := h j r hr
    exact ⟨w.1, w.2.1, w.2.2.1, fun e => ⟨by have := (w.2.2.2 e).1; omega, by have := (w.2.2.2 e).2; show _ ≤ n + (l.length + 1); omega⟩⟩
/-- runs of steps from i to t: inner what may stand in an again -/
def NM (K T : Nat → Nat) (inner : Nat → Nat → Prop) : Nat → Nat → Nat → Prop
  | 0, i, to => i = to
  | m + 1, i, to => i = to ∨ (i < to ∧ (if K i = 6 then i + 1 ≤ T i ∧ T i ≤ to ∧ inner (i + 1) (T i) ∧ NM K T inner m (T i) to else NM K T inner m (i + 1) to))
def NL (K T : Nat → Nat) : Nat → Nat → Nat → Prop
  | 0, i, to => ∃ m, NM K T (fun _ _ => False) m i to
  | lev + 1, i, to => ∃ m, NM K T (NL K T lev) m i to
theorem NM_le {K T : Nat → Nat} {inner : Nat → Nat → Prop} : ∀ m i to, NM K T inner m i to → i ≤ to
  | 0, i, to, h => by
    have : i = to := h
    omega
  | m + 1, i, to, h => by
    rcases h with h | h
    · omega
    · omega
theorem NM_app {K T : Nat → Nat} {inner : Nat → Nat → Prop} : ∀ m m2 i mid to, NM K T inner m i mid → NM K T inner m2 mid to → NM K T inner (m + m2) i to
  | 0, m2, i, mid, to, h1, h2 => by
    have : i = mid := h1
    subst this
    rw [Nat.zero_add]
    exact h2
  | m + 1, m2, i, mid, to, h1, h2 => by
    have hm := NM_le _ _ _ h2
    rw [show m + 1 + m2 = (m + m2) + 1 by omega]
    rcases h1 with h1 | ⟨hlt, h1⟩
    · subst h1
      have up : ∀ k a, NM K T inner k a to → NM K T inner (k + 1) a to := by
        intro k
        induction k with
        | zero => intro a h; exact Or.inl h
        | succ k ih =>
          intro a h
          rcases h with h | ⟨h0, h⟩
          · exact Or.inl h
          · refine Or.inr ⟨h0, ?_⟩
            by_cases hk : K a = 6
            · rw [if_pos hk] at h ⊢
              exact ⟨h.1, h.2.1, h.2.2.1, ih _ h.2.2.2⟩
            · rw [if_neg hk] at h ⊢
              exact ih _ h
      have upn : ∀ j a, NM K T inner m2 a to → NM K T inner (j + m2) a to := by
        intro j
        induction j with
        | zero => intro a h; rw [Nat.zero_add]; exact h
        | succ j ih => intro a h; rw [show j + 1 + m2 = (j + m2) + 1 by omega]; exact up _ _ (ih a h)
      exact up _ _ (upn m i h2)
    · refine Or.inr ⟨by omega, ?_⟩
      by_cases hk : K i = 6
      · rw [if_pos hk] at h1 ⊢
        exact ⟨h1.1, by omega, h1.2.2.1, NM_app m m2 _ mid to h1.2.2.2 h2⟩
      · rw [if_neg hk] at h1 ⊢
        exact NM_app m m2 _ mid to h1 h2
def MT (K T : Nat → Nat) (n : Nat) (l : List ST) : Prop := ∀ j q, l[j]? = some q → K (n + j) = q.1 ∧ T (n + j) = q.2.2
theorem MT.app {K T : Nat → Nat} {n : Nat} {l1 l2 : List ST} (h : MT K T n (l1 ++ l2)) : MT K T n l1 ∧ MT K T (n + l1.length) l2 := by
  refine ⟨fun j q hq => h j q ?_, fun j q hq => ?_⟩
  · have hj : j < l1.length := by
      rcases Nat.lt_or_ge j l1.length with h | h
      · exact h
      · rw [List.getElem?_eq_none h] at hq; cases hq
    rw [List.getElem?_append_left hj]
    exact hq
  · have w := h (l1.length + j) q (by rw [List.getElem?_append_right (by omega), Nat.add_sub_cancel_left]; exact hq)
    rw [Nat.add_assoc]
    exact w
/-- what is known of steps that were read: u a reader, inner what may stand in its agains -/
def SK (u : Nat → Nat → SR) (inner : (Nat → Nat) → (Nat → Nat) → Nat → Nat → Prop) : Prop := ∀ n a q, u n a = .ok q → WL n q.1 ∧ ∀ K T, MT K T n q.1 → ∃ m, NM K T (inner K T) m n (n + q.1.length)
theorem SK.steps {g : Nat → Nat} {len : Nat} {u : Nat → Nat → SR} {inner : (Nat → Nat) → (Nat → Nat) → Nat → Nat → Prop} (h : SK u inner) : ∀ m, SK (pSteps g len u m) inner
  | 0, n, a, q, hq => by
    injection hq with hq
    subst hq
    exact ⟨WL.nil n, fun K T _ => ⟨0, rfl⟩⟩
  | m + 1, n, a, q, hq => by
    unfold pSteps at hq
    split at hq
    · injection hq with hq
      subst hq
      exact ⟨WL.nil n, fun K T _ => ⟨0, rfl⟩⟩
    · obtain ⟨q1, e1, hq⟩ := xbn_is hq
      obtain ⟨a2, e2, hq⟩ := xbn_is hq
      obtain ⟨r, e3, hq⟩ := xbn_is hq
      injection hq with hq
      subst hq
      have w1 := h _ _ _ e1
      have w3 := SK.steps h m _ _ _ e3
      refine ⟨w1.1.app w3.1, fun K T hm => ?_⟩
      obtain ⟨m1, k1⟩ := w1.2 K T hm.app.1
      obtain ⟨m2, k2⟩ := w3.2 K T hm.app.2
      refine ⟨m1 + m2, ?_⟩
      show NM K T (inner K T) (m1 + m2) n (n + (q1.1 ++ r.1).length)
      rw [List.length_append, ← Nat.add_assoc]
      exact NM_app _ _ _ _ _ k1 k2
theorem MT.one {K T : Nat → Nat} {inner : Nat → Nat → Prop} {n : Nat} {q : ST} (h : MT K T n [q]) (hq : q.1 ≠ 6) : NM K T inner 1 n (n + 1) := by
  refine Or.inr ⟨by omega, ?_⟩
  have w := (h 0 q rfl).1
  rw [Nat.add_zero] at w
  rw [if_neg (by rw [w]; exact hq)]
  rfl
theorem pTwo_lt {g : Nat → Nat} {len m n a : Nat} {q : Nat × Nat × Nat} (h : pTwo g len m n a = .ok q) : q.1 < m ∧ q.2.1 < n := by
  unfold pTwo at h
  cases h1 : pNum g len 0 m a with
  | error e => rw [h1] at h; cases h
  | ok q1 =>
    rw [h1] at h
    cases h2 : pNum g len 0 n q1.2 with
    | error e => simp only [h2] at h; cases h
    | ok q2 =>
      simp only [h2] at h
      injection h with h
      subst h
      exact ⟨(pNum_lt h1).2, (pNum_lt h2).2⟩
theorem SK.step {g : Nat → Nat} {len ns : Nat} {s : Option (Nat → Nat → SR)} {inner : (Nat → Nat) → (Nat → Nat) → Nat → Nat → Prop} (hns : ns ≤ 5) (h : ∀ F, s = some F → ∀ n a q, F n a = .ok q → WL n q.1 ∧ ∀ K T, MT K T n q.1 → inner K T n (n + q.1.length)) : SK (pStep g len ns s) inner := by
  intro n a q hq
  obtain ⟨w, e0, hq⟩ := xbn_is hq
  have w0 := pWord2_ge e0
  unfold pOne at hq
  split at hq
  · obtain ⟨t, e1, hq⟩ := xbn_is hq
    injection hq with hq
    subst hq
    have := pTwo_lt e1
    exact ⟨WL.one ⟨by show 0 < 6; decide, by show t.1 < 5; omega, fun _ => by show t.2.1 < 5; omega⟩, fun K T hm => ⟨1, hm.one (by show (0 : Nat) ≠ 6; decide)⟩⟩
  · split at hq
    · obtain ⟨t, e1, hq⟩ := xbn_is hq
      injection hq with hq
      subst hq
      have := pTwo_lt e1
      exact ⟨WL.one ⟨by show 3 < 6; decide, by show t.1 < 5; omega, fun e => absurd e (by show ¬ (3 = 0); decide)⟩, fun K T hm => ⟨1, hm.one (by show (3 : Nat) ≠ 6; decide)⟩⟩
    · split at hq
      · unfold pAgain at hq
        cases s with
        | none => cases hq
        | some F =>
          obtain ⟨t, e1, hq⟩ := xbn_is hq
          obtain ⟨a1, e2, hq⟩ := xbn_is hq
          obtain ⟨q1, e3, hq⟩ := xbn_is hq
          obtain ⟨a2, e4, hq⟩ := xbn_is hq
          injection hq with hq
          subst hq
          have hl := (pNum_lt e1).2
          have w3 := h F rfl _ _ _ e3
          refine ⟨WL.again (by omega) w3.1, fun K T hm => ⟨1, Or.inr ⟨?_, ?_⟩⟩⟩
          · show n < n + (q1.1.length + 1)
            omega
          · have hm0 := hm 0 _ rfl
            have hms : MT K T (n + 1) q1.1 := fun j q hq => by
              have := hm (j + 1) q hq
              rw [show n + 1 + j = n + (j + 1) by omega]
              exact this
            rw [Nat.add_zero] at hm0
            rw [if_pos hm0.1, hm0.2]
            refine ⟨by show n + 1 ≤ n + 1 + q1.1.length; omega, by show n + 1 + q1.1.length ≤ n + (q1.1.length + 1); omega, w3.2 K T hms, ?_⟩
            show n + 1 + q1.1.length = n + (q1.1.length + 1)
            omega
      · split at hq
        · injection hq with hq
          subst hq
          exact ⟨WL.one ⟨by show 5 < 6; decide, by show 0 < 5; decide, fun e => absurd e (by show ¬ (5 = 0); decide)⟩, fun K T hm => ⟨1, hm.one (by show (5 : Nat) ≠ 6; decide)⟩⟩
        · obtain ⟨t, e1, hq⟩ := xbn_is hq
          injection hq with hq
          subst hq
          have hl := (pNum_lt e1).2
          exact ⟨WL.one ⟨by show w.1 < 6; omega, by show t.1 < 5; omega, fun e => by show 0 < 5; decide⟩, fun K T hm => ⟨1, hm.one (by show w.1 ≠ 6; assumption)⟩⟩
def NLf (lev : Nat) (K T : Nat → Nat) (i to : Nat) : Prop := match lev with
  | 0 => False
  | l + 1 => NL K T l i to
theorem SK.all {g : Nat → Nat} {len ns : Nat} (hns : ns ≤ 5) : ∀ lev, SK (pStepL g len ns lev) (fun K T => NLf lev K T)
  | 0 => SK.step hns (fun f h => by cases h)
  | lev + 1 => SK.step hns (fun f h n a q hq => by
    injection h with h
    subst h
    have w := (SK.all hns lev).steps 151 n a q hq
    refine ⟨w.1, fun K T hm => ?_⟩
    have w2 := w.2 K T hm
    show NL K T lev n (n + q.1.length)
    cases lev with
    | zero => exact w2
    | succ l => exact w2)
/-- the steps of a list, by place -/
def lK (l : List ST) (i : Nat) : Nat := (l.getD i (0, 0, 0)).1
def lO (l : List ST) (i : Nat) : Nat := (l.getD i (0, 0, 0)).2.1
def lT (l : List ST) (i : Nat) : Nat := (l.getD i (0, 0, 0)).2.2
theorem MT.self (l : List ST) : MT (lK l) (lT l) 0 l := by
  intro j q hq
  unfold lK lT
  rw [Nat.zero_add, List.getD_eq_getElem?_getD, hq]
  exact ⟨rfl, rfl⟩
theorem pWork_ok {g : Nat → Nat} {len ns a : Nat} {q : List ST × Nat} (hns : ns ≤ 5) (hl : len ≤ 150) (ha : q.2 ≤ len) (h : pWork g len ns a = .ok q) : WI (lK q.1) (lO q.1) (lT q.1) q.1.length ∧ NL (lK q.1) (lT q.1) 6 0 q.1.length ∧ 4 * q.1.length ≤ 150 := by
  obtain ⟨q1, e1, h⟩ := xbn_is h
  obtain ⟨a2, e2, h⟩ := xbn_is h
  injection h with h
  subst h
  have w := (SK.all hns 6).steps 151 0 a q1 e1
  have hg := (LenS.all 6).steps 151 0 a q1 e1
  have he : q1.2 ≤ a2 := by
    unfold pEnd at e2
    split at e2
    · injection e2 with e2
      have := skip_ge g len q1.2
      omega
    · cases e2
  have ha : a2 ≤ len := ha
  refine ⟨⟨by show q1.1.length ≤ 150; omega, fun i hi => ?_⟩, ?_, by show 4 * q1.1.length ≤ 150; omega⟩
  · have hi : i < q1.1.length := hi
    have w1 := w.1 i (q1.1[i]) (List.getElem?_eq_getElem hi)
    have hK : q1.1.getD i (0, 0, 0) = q1.1[i] := by rw [List.getD_eq_getElem?_getD, List.getElem?_eq_getElem hi]; rfl
    unfold lK lO lT
    rw [hK]
    refine ⟨w1.1, w1.2.1, w1.2.2.1, fun e => ?_⟩
    have := w1.2.2.2 e
    show i + 1 ≤ _ ∧ _ ≤ q1.1.length
    omega
  · have w2 := w.2 _ _ (MT.self q1.1)
    rw [Nat.zero_add] at w2
    exact w2
theorem wrL_lo : ∀ (l : List Nat) (f : Nat → Int32) (n i : Nat), i < n → wrL f n l i = f i
  | [], _, _, _, _ => rfl
  | c :: l, f, n, i, h => by
    show wrL (upd f n (nI c)) (n + 1) l i = f i
    rw [wrL_lo l _ _ _ (by omega), pk_un (by omega)]
theorem wrL_at : ∀ (l : List Nat) (f : Nat → Int32) (n i c : Nat), l[i]? = some c → wrL f n l (n + i) = nI c
  | [], _, _, _, _, h => by simp at h
  | d :: l, f, n, i, c, h => by
    show wrL (upd f n (nI d)) (n + 1) l (n + i) = nI c
    cases i with
    | zero =>
      injection h with h
      subst h
      rw [wrL_lo l _ _ _ (by omega), Nat.add_zero, pk_us]
    | succ i =>
      rw [show n + (i + 1) = n + 1 + i by omega]
      exact wrL_at l _ _ _ _ h
/-! THE BOOK'S TEXT -/
def bkHas (l : List (Nat × Nat)) (m : Nat) : Bool := l.any (fun q => q.1 == m)
def pBook (g : Nat → Nat) (len : Nat) : Nat → List (Nat × Nat) → Nat → Except PE (List (Nat × Nat) × Nat)
  | 0, l, a => .ok (l, a)
  | m + 1, l, a => if nxV g len a = -1 then .ok (l, skip g len a) else xbn (pNum g len 0 240 a) (fun q => if bkHas l q.1 then .error (2, skip g len a) else if 8 ≤ l.length then .error (3, skip g len a) else xbn (pNum g len 0 41 q.2) (fun v => xbn (pTake g len 59 v.2) (fun a2 => pBook g len m (l ++ [(q.1, v.1)]) a2)))
def SB (c : Nat) : Prop := 36 ≤ c ∧ c ≤ 38
theorem SB_ {c : Nat} (h1 : 36 ≤ c) (h2 : c ≤ 38) : SB c := ⟨h1, h2⟩
def BI (x : XS) (l : List (Nat × Nat)) : Prop := x 36 2 = nI l.length ∧ l.length ≤ 8 ∧ (∀ (j : Nat) (q : Nat × Nat), l[j]? = some q → x 37 j = nI q.1 ∧ x 38 j = nI q.2) ∧ ∀ (j : Nat) (q : Nat × Nat), l[j]? = some q → q.1 < 240 ∧ q.2 < 41
theorem hasB_any {f : Nat → Int32} {m : Nat} (hm : m < 240) : ∀ (l : List (Nat × Nat)), (∀ (j : Nat) (q : Nat × Nat), l[j]? = some q → f j = nI q.1 ∧ q.1 < 240) → ∀ k, k ≤ l.length → hasB f (nI m) k = (l.take k).any (fun q => q.1 == m)
  | l, h, 0, _ => by rw [List.take_zero]; rfl
  | l, h, k + 1, hk => by
    have ih := hasB_any hm l h k (by omega)
    have hg : l[k]? = some l[k] := List.getElem?_eq_getElem (by omega)
    have w := h k _ hg
    show (hasB f (nI m) k || decide (f k = nI m)) = _
    rw [ih, List.take_add_one, List.any_append, hg, w.1]
    congr 1
    show decide (nI l[k].1 = nI m) = ((l[k].1 == m) || false)
    rw [Bool.or_false]
    by_cases e : l[k].1 = m
    · rw [decide_eq_true (by rw [e]), e]; simp
    · rw [decide_eq_false (fun q => e ((nI_eq (by omega) (by omega)).mp q))]
      simp [e]
theorem BI.has {x : XS} {l : List (Nat × Nat)} {m : Nat} (h : BI x l) (hm : m < 240) : hasB (x 37) (nI m) l.length = bkHas l m := by
  rw [hasB_any hm l (fun j q hq => ⟨(h.2.2.1 j q hq).1, (h.2.2.2 j q hq).1⟩) l.length (Nat.le_refl _), List.take_length]
  rfl
theorem BI.fr {x x1 : XS} {l : List (Nat × Nat)} (h : BI x l) (h36 : x1 36 = x 36) (h37 : x1 37 = x 37) (h38 : x1 38 = x 38) : BI x1 l := by
  unfold BI
  rw [h36, h37, h38]
  exact h
theorem BI.put {x : XS} {l : List (Nat × Nat)} {m v : Nat} (h : BI x l) (hl : l.length < 8) (hm : m < 240) (hv : v < 41) : BI (xu (xu (xu x 37 l.length (nI m)) 38 l.length (nI v)) 36 2 (nI (l.length + 1))) (l ++ [(m, v)]) := by
  have key : ∀ j (q : Nat × Nat), (l ++ [(m, v)])[j]? = some q → (j < l.length ∧ l[j]? = some q) ∨ (j = l.length ∧ q = (m, v)) := by
    intro j q hq
    by_cases hj : j < l.length
    · rw [List.getElem?_append_left hj] at hq
      exact Or.inl ⟨hj, hq⟩
    · rw [List.getElem?_append_right (by omega)] at hq
      cases hz : j - l.length with
      | zero =>
        rw [hz] at hq
        injection hq with hq
        exact Or.inr ⟨by omega, hq.symm⟩
      | succ k => rw [hz] at hq; simp at hq
  refine ⟨?_, ?_, fun j q hq => ?_, fun j q hq => ?_⟩
  · show nI (l.length + 1) = nI (l ++ [(m, v)]).length
    rw [List.length_append, List.length_singleton]
  · rw [List.length_append, List.length_singleton]
    exact hl
  · show upd (x 37) l.length (nI m) j = nI q.1 ∧ upd (x 38) l.length (nI v) j = nI q.2
    rcases key j q hq with ⟨hj, hq⟩ | ⟨hj, hq2⟩
    · rw [pk_un (by omega), pk_un (by omega)]
      exact h.2.2.1 j q hq
    · rw [hj, hq2]
      exact ⟨pk_us, pk_us⟩
  · rcases key j q hq with ⟨hj, hq⟩ | ⟨hj, hq⟩
    · exact h.2.2.2 j q hq
    · subst hq
      exact ⟨hm, hv⟩
set_option maxHeartbeats 8000000 in
set_option maxRecDepth 20000 in
theorem c_X1_read {g : Nat → Nat} {len a : Nat} {x : XS} (hT : TP x g len a) : MM mX1_read 2 0 0 [.ref 36, .ref 1] x (fun v x1 => v = some (.int (bI (okB (pBook g len 9 [] a)))) ∧ PO SB x x1 g len (pBook g len 9 [] a) (fun q => q.2) ∧ ∀ q, pBook g len 9 [] a = .ok q → BI x1 q.1) NoT := by
  refine MM.of (by decide) (Nat.le_of_ble_eq_true rfl) ?_
  have y1 := lay_1
  have y2 := lay_2
  have y36 := lay_36
  have y37 := lay_37
  have y38 := lay_38
  have A9 : AC SB x (xu x 36 2 (nI 0)) := AC.rfl.puts (SB_ (by decide) (by decide)) (by decide)
  refine r_aload_n dX1_read_0 rfl (by rfl) ?_
  refine r_iconst (v := nI 0) dX1_read_1 (by decide) ?_
  refine pf_X1_18 rfl dX1_read_2 (by first | assumption | rfl) (by rfl) ?_
  refine r_iconst (v := nI 0) dX1_read_5 (by decide) ?_
  refine r_istore_n dX1_read_6 rfl (by decide) ?_
  refine PW.loop (σ := Nat × List (Nat × Nat) × Nat × XS) (fun s => 9 - s.1) (fun s => s.1 ≤ 8 ∧ AC SB x s.2.2.2 ∧ TP s.2.2.2 g len s.2.2.1 ∧ BI s.2.2.2 s.2.1 ∧ s.2.1.length = s.1 ∧ pBook g len (9 - s.1) s.2.1 s.2.2.1 = pBook g len 9 [] a) (fun s => [(0, .ref 36), (1, .ref 1), (2, .int (nI s.1))]) (fun s => s.2.2.2) ((0, [], a, (xu x 36 2 (nI 0)))) (⟨Nat.zero_le _, A9, hT, ⟨rfl, Nat.zero_le _, fun j q hq => (by simp at hq), fun j q hq => (by simp at hq)⟩, rfl, rfl⟩) rfl rfl (fun s hs sh => ?_)
  obtain ⟨hs0, hA, hTs, hB, hln, hR⟩ := hs
  refine r_iload_n dX1_read_7 rfl (by rfl) ?_
  refine r_bipush (v := nI 8) dX1_read_8 (by decide) ?_
  refine r_icmp_gtN (tgt := 137) dX1_read_10 (by decide) (by omega) (by omega) (fun h10 => by exfalso; omega) (fun _ => ?_)
  refine r_aload_n dX1_read_13 rfl (by rfl) ?_
  refine r_callV (c_X8_next hTs) mv_X8_next ml_X1_22 ⟨by decide, by decide⟩ dX1_read_14 (by first | assumption | rfl) rfl rfl rfl (Nat.le_of_ble_eq_true rfl) (fun v9 x9 h9 => ?_)
  obtain ⟨rfl, h9⟩ := h9
  refine PW.xeq h9 ?_
  clear h9 x9
  have B0 : TP (atX s.2.2.2 (skip g len s.2.2.1)) g len (skip g len s.2.2.1) := hTs.at (skip_le hTs.2.2.2.1)
  have A00 : AC SB x (atX s.2.2.2 (skip g len s.2.2.1)) := hA.at
  refine r_iconst (v := -1) dX1_read_17 (by decide) ?_
  refine r_icmp_eq (tgt := 137) dX1_read_18 (by decide) (fun h18 => ?_) (fun h18 => ?_)
  · refine r_iconst (v := nI 1) dX1_read_137 (by decide) ?_
    refine r_zret rfl (by first | exact bI_01 _ | exact Or.inl rfl | exact Or.inr rfl) dX1_read_138 ?_
    have w : pBook g len 9 [] a = .ok (s.2.1, skip g len s.2.2.1) := by rw [← hR, show 9 - s.1 = (8 - s.1) + 1 by omega, pBook, if_pos h18]
    refine ⟨by rw [w]; rfl, A00.fin (q := (s.2.1, skip g len s.2.2.1)) B0 w, fun q hq => ?_⟩
    rw [w] at hq
    injection hq with hq
    subst hq
    exact hB.fr rfl rfl rfl
  · refine r_aload_n dX1_read_21 rfl (by rfl) ?_
    refine r_iconst (v := nI 0) dX1_read_22 (by decide) ?_
    refine r_sipush (v := nI 239) dX1_read_23 (by decide) ?_
    refine r_callV (c_X8_number B0 (by decide)) mv_X8_number ml_X1_28 ⟨by decide, by decide⟩ dX1_read_26 (by first | assumption | rfl) rfl rfl rfl (Nat.le_of_ble_eq_true rfl) (fun v9 x9 h9 => ?_)
    obtain ⟨rfl, h9⟩ := h9
    obtain ⟨v9, f1, e9, q1, b1⟩ := num_rel (x := (atX s.2.2.2 (skip g len s.2.2.1))) (lo := 0) (n := 240) (hv := nI 239) B0 (by decide) (by decide) (by decide +kernel)
    refine PW.topi v9 ?_
    refine PW.xeq (h9.trans e9) ?_
    clear h9 x9 v9 e9
    refine r_istore_n dX1_read_29 rfl (by decide) ?_
    refine r_iload_n dX1_read_30 rfl (by rfl) ?_
    refine r_iconst (v := -1) dX1_read_31 (by decide) ?_
    refine r_icmp_ne (tgt := 37) dX1_read_32 (by decide) (fun h32 => ?_) (fun h32 => ?_)
    · obtain ⟨m, a1, e1, hm⟩ := pI_ne h32
      rw [show pI (pNum g len 0 240 (skip g len s.2.2.1)) = nI m by rw [e1]; rfl]
      have T1 : TP (xr (atX s.2.2.2 (skip g len s.2.2.1)) 1 f1) g len a1 := q1.tp B0 e1
      have A1 : AC SB x (xr (atX s.2.2.2 (skip g len s.2.2.1)) 1 f1) := A00.pf q1 e1
      have E1 : (xr (atX s.2.2.2 (skip g len s.2.2.1)) 1 f1) 1 6 = nI (skip g len s.2.2.1) := by
        have z := b1 (by rw [e1]; rfl)
        rw [skip_skip] at z
        exact z
      rw [pNum_skip] at e1
      have I1 : BI (xr (atX s.2.2.2 (skip g len s.2.2.1)) 1 f1) s.2.1 := hB.fr rfl rfl rfl
      refine r_aload_n dX1_read_37 rfl (by rfl) ?_
      refine r_iload_n dX1_read_38 rfl (by rfl) ?_
      refine r_callV (c_X1_has (c0 := 36) (Or.inr rfl) I1.1 I1.2.1) mv_X1_has ml_X1_32 ⟨by decide, by decide⟩ dX1_read_39 (by first | assumption | rfl) rfl rfl rfl (Nat.le_of_ble_eq_true rfl) (fun v9 x9 h9 => ?_)
      obtain ⟨rfl, h9⟩ := h9
      refine PW.xeq h9 ?_
      clear h9 x9
      refine r_if_eqB (tgt := 55) dX1_read_42 (by decide) (fun h42 => ?_) (fun h42 => ?_)
      · refine r_aload_n dX1_read_55 rfl (by rfl) ?_
        refine gf_X1_18 rfl dX1_read_56 (by first | assumption | rfl) (by rfl) ?_
        refine PW.topi (show _ = nI s.2.1.length from I1.1) ?_
        refine r_bipush (v := nI 8) dX1_read_59 (by decide) ?_
        refine r_icmp_ltN (tgt := 74) dX1_read_61 (by decide) (by omega) (by omega) (fun h61 => ?_) (fun h61 => ?_)
        · refine r_aload_n dX1_read_74 rfl (by rfl) ?_
          refine r_iconst (v := nI 0) dX1_read_75 (by decide) ?_
          refine r_bipush (v := nI 40) dX1_read_76 (by decide) ?_
          refine r_callV (c_X8_number T1 (by decide)) mv_X8_number ml_X1_28 ⟨by decide, by decide⟩ dX1_read_78 (by first | assumption | rfl) rfl rfl rfl (Nat.le_of_ble_eq_true rfl) (fun v9 x9 h9 => ?_)
          obtain ⟨rfl, h9⟩ := h9
          obtain ⟨v9, f2, e9, q2, b2⟩ := num_rel (x := (xr (atX s.2.2.2 (skip g len s.2.2.1)) 1 f1)) (lo := 0) (n := 41) (hv := nI 40) T1 (by decide) (by decide) (by decide +kernel)
          refine PW.topi v9 ?_
          refine PW.xeq (h9.trans e9) ?_
          clear h9 x9 v9 e9
          refine r_istore dX1_read_81 (by decide) ?_
          refine r_iload dX1_read_83 (by rfl) ?_
          refine r_iconst (v := -1) dX1_read_85 (by decide) ?_
          refine r_icmp_eq (tgt := 98) dX1_read_86 (by decide) (fun h86 => ?_) (fun h86 => ?_)
          · refine r_iconst (v := nI 0) dX1_read_98 (by decide) ?_
            refine r_zret rfl (by first | exact bI_01 _ | exact Or.inl rfl | exact Or.inr rfl) dX1_read_99 ?_
            have hh : bkHas s.2.1 m = false := by rw [← I1.has hm]; exact h42
            first
              | (obtain ⟨er, e3⟩ := okB_f h95
                 have w : pBook g len 9 [] a = .error er := by rw [← hR, show 9 - s.1 = (8 - s.1) + 1 by omega, pBook, if_neg h18, e1, xbn_ok, if_neg (by rw [hh]; decide), if_neg (by omega), e2, xbn_ok, e3, xbn_err]
                 exact ⟨by rw [w]; rfl, A2.err q3 e3 w, fun q hq => by rw [w] at hq; cases hq⟩)
              | (obtain ⟨er, e2⟩ := pI_eq (by decide) h86
                 have w : pBook g len 9 [] a = .error er := by rw [← hR, show 9 - s.1 = (8 - s.1) + 1 by omega, pBook, if_neg h18, e1, xbn_ok, if_neg (by rw [hh]; decide), if_neg (by omega), e2, xbn_err]
                 exact ⟨by rw [w]; rfl, A1.err q2 e2 w, fun q hq => by rw [w] at hq; cases hq⟩)
          · obtain ⟨v, a2, e2, hv⟩ := pI_ne h86
            rw [show pI (pNum g len 0 41 a1) = nI v by rw [e2]; rfl]
            have T2 : TP (xr (xr (atX s.2.2.2 (skip g len s.2.2.1)) 1 f1) 1 f2) g len a2 := q2.tp T1 e2
            have A2 : AC SB x (xr (xr (atX s.2.2.2 (skip g len s.2.2.1)) 1 f1) 1 f2) := A1.pf q2 e2
            refine r_aload_n dX1_read_89 rfl (by rfl) ?_
            refine r_bipush (v := nI 59) dX1_read_90 (by decide) ?_
            refine r_callV (c_X8_take T2) mv_X8_take ml_X1_43 ⟨by decide, by decide⟩ dX1_read_92 (by first | assumption | rfl) rfl rfl rfl (Nat.le_of_ble_eq_true rfl) (fun v9 x9 h9 => ?_)
            obtain ⟨rfl, h9⟩ := h9
            obtain ⟨v9, f3, e9, q3⟩ := tak_rel (x := (xr (xr (atX s.2.2.2 (skip g len s.2.2.1)) 1 f1) 1 f2)) (c := 59) T2
            have q3 := q3 (by decide +kernel)
            refine PW.topi (congrArg bI v9) ?_
            refine PW.xeq (h9.trans e9) ?_
            clear h9 x9 v9 e9
            refine r_if_neB (tgt := 100) dX1_read_95 (by decide) (fun h95 => ?_) (fun h95 => ?_)
            · obtain ⟨a3, e3⟩ := okB_t h95
              have T3 : TP (xr (xr (xr (atX s.2.2.2 (skip g len s.2.2.1)) 1 f1) 1 f2) 1 f3) g len a3 := q3.tp T2 e3
              have A3 : AC SB x (xr (xr (xr (atX s.2.2.2 (skip g len s.2.2.1)) 1 f1) 1 f2) 1 f3) := A2.pf q3 e3
              have I3 : BI (xr (xr (xr (atX s.2.2.2 (skip g len s.2.2.1)) 1 f1) 1 f2) 1 f3) s.2.1 := hB.fr rfl rfl rfl
              refine r_aload_n dX1_read_100 rfl (by rfl) ?_
              refine gf_X1_11 rfl dX1_read_101 (by first | assumption | rfl) (by rfl) ?_
              refine r_aload_n dX1_read_104 rfl (by rfl) ?_
              refine gf_X1_18 rfl dX1_read_105 (by first | assumption | rfl) (by rfl) ?_
              refine PW.topi (show _ = nI s.2.1.length from I3.1) ?_
              refine r_iload_n dX1_read_108 rfl (by rfl) ?_
              refine r_iastN dX1_read_109 (by first | assumption | rfl) (by omega) (by decide) ?_
              refine r_aload_n dX1_read_110 rfl (by rfl) ?_
              refine gf_X1_15 rfl dX1_read_111 (by first | assumption | rfl) (by rfl) ?_
              refine r_aload_n dX1_read_114 rfl (by rfl) ?_
              refine gf_X1_18 rfl dX1_read_115 (by first | assumption | rfl) (by rfl) ?_
              refine PW.topi (show _ = nI s.2.1.length from I3.1) ?_
              refine r_iload dX1_read_118 (by rfl) ?_
              refine r_iastN dX1_read_120 (by first | assumption | rfl) (by omega) (by decide) ?_
              refine r_aload_n dX1_read_121 rfl (by rfl) ?_
              refine r_dup dX1_read_122 rfl ?_
              refine gf_X1_18 rfl dX1_read_123 (by first | assumption | rfl) (by rfl) ?_
              refine PW.topi (show _ = nI s.2.1.length from I3.1) ?_
              refine r_iconst (v := nI 1) dX1_read_126 (by decide) ?_
              refine r_iaddN dX1_read_127 ?_
              refine pf_X1_18 rfl dX1_read_128 (by first | assumption | rfl) (by rfl) ?_
              refine r_iincN dX1_read_131 (by rfl) (by decide) ?_
              refine r_goto (tgt := 7) dX1_read_134 (by decide) ?_
              have hh : bkHas s.2.1 m = false := by rw [← I1.has hm]; exact h42
              exact PW.lc (by rfl) rfl (sh (s.1 + 1, s.2.1 ++ [(m, v)], a3, xu (xu (xu (xr (xr (xr (atX s.2.2.2 (skip g len s.2.2.1)) 1 f1) 1 f2) 1 f3) 37 s.2.1.length (nI m)) 38 s.2.1.length (nI v)) 36 2 (nI (s.2.1.length + 1))) ⟨(show s.1 + 1 ≤ 8 by omega), ((A3.puts (SB_ (by decide) (by decide)) (by decide)).puts (SB_ (by decide) (by decide)) (by decide)).puts (SB_ (by decide) (by decide)) (by decide), T3, I3.put (by omega) hm hv, (by show (s.2.1 ++ [(m, v)]).length = s.1 + 1; rw [List.length_append, List.length_singleton, hln]), (by
                show pBook g len (9 - (s.1 + 1)) (s.2.1 ++ [(m, v)]) a3 = _
                rw [← hR, show 9 - s.1 = (9 - (s.1 + 1)) + 1 by omega, pBook, if_neg h18, e1, xbn_ok, if_neg (by rw [hh]; decide), if_neg (by omega), e2, xbn_ok, e3, xbn_ok])⟩ (show 9 - (s.1 + 1) < 9 - s.1 by omega))
            · refine r_iconst (v := nI 0) dX1_read_98 (by decide) ?_
              refine r_zret rfl (by first | exact bI_01 _ | exact Or.inl rfl | exact Or.inr rfl) dX1_read_99 ?_
              have hh : bkHas s.2.1 m = false := by rw [← I1.has hm]; exact h42
              first
                | (obtain ⟨er, e3⟩ := okB_f h95
                   have w : pBook g len 9 [] a = .error er := by rw [← hR, show 9 - s.1 = (8 - s.1) + 1 by omega, pBook, if_neg h18, e1, xbn_ok, if_neg (by rw [hh]; decide), if_neg (by omega), e2, xbn_ok, e3, xbn_err]
                   exact ⟨by rw [w]; rfl, A2.err q3 e3 w, fun q hq => by rw [w] at hq; cases hq⟩)
                | (obtain ⟨er, e2⟩ := pI_eq (by decide) h86
                   have w : pBook g len 9 [] a = .error er := by rw [← hR, show 9 - s.1 = (8 - s.1) + 1 by omega, pBook, if_neg h18, e1, xbn_ok, if_neg (by rw [hh]; decide), if_neg (by omega), e2, xbn_err]
                   exact ⟨by rw [w]; rfl, A1.err q2 e2 w, fun q hq => by rw [w] at hq; cases hq⟩)
        · refine r_aload_n dX1_read_64 rfl (by rfl) ?_
          refine r_iconst (v := nI 3) dX1_read_65 (by decide) ?_
          refine r_aload_n dX1_read_66 rfl (by rfl) ?_
          refine gf_X1_36 rfl dX1_read_67 (by first | assumption | rfl) (by rfl) ?_
          refine PW.topi E1 ?_
          refine r_callV c_X8_fail mv_X8_fail ml_X1_39 ⟨by decide, by decide⟩ dX1_read_70 (by first | assumption | rfl) rfl rfl rfl (Nat.le_of_ble_eq_true rfl) (fun v9 x9 h9 => ?_)
          obtain ⟨rfl, h9⟩ := h9
          refine PW.xeq h9 ?_
          clear h9 x9
          refine r_zret rfl (by first | exact bI_01 _ | exact Or.inl rfl | exact Or.inr rfl) dX1_read_73 ?_
          have hh : bkHas s.2.1 m = false := by rw [← I1.has hm]; exact h42
          have w : pBook g len 9 [] a = .error (3, skip g len s.2.2.1) := by rw [← hR, show 9 - s.1 = (8 - s.1) + 1 by omega, pBook, if_neg h18, e1, xbn_ok, if_neg (by rw [hh]; decide), if_pos (by omega)]
          exact ⟨by rw [w]; rfl, A1.fail w, fun q hq => by rw [w] at hq; cases hq⟩
      · refine r_aload_n dX1_read_45 rfl (by rfl) ?_
        refine r_iconst (v := nI 2) dX1_read_46 (by decide) ?_
        refine r_aload_n dX1_read_47 rfl (by rfl) ?_
        refine gf_X1_36 rfl dX1_read_48 (by first | assumption | rfl) (by rfl) ?_
        refine PW.topi E1 ?_
        refine r_callV c_X8_fail mv_X8_fail ml_X1_39 ⟨by decide, by decide⟩ dX1_read_51 (by first | assumption | rfl) rfl rfl rfl (Nat.le_of_ble_eq_true rfl) (fun v9 x9 h9 => ?_)
        obtain ⟨rfl, h9⟩ := h9
        refine PW.xeq h9 ?_
        clear h9 x9
        refine r_zret rfl (by first | exact bI_01 _ | exact Or.inl rfl | exact Or.inr rfl) dX1_read_54 ?_
        have hh : bkHas s.2.1 m = true := by rw [← I1.has hm]; exact h42
        have w : pBook g len 9 [] a = .error (2, skip g len s.2.2.1) := by rw [← hR, show 9 - s.1 = (8 - s.1) + 1 by omega, pBook, if_neg h18, e1, xbn_ok, if_pos hh]
        exact ⟨by rw [w]; rfl, A1.fail w, fun q hq => by rw [w] at hq; cases hq⟩
    · refine r_iconst (v := nI 0) dX1_read_35 (by decide) ?_
      refine r_zret rfl (by first | exact bI_01 _ | exact Or.inl rfl | exact Or.inr rfl) dX1_read_36 ?_
      obtain ⟨er, e1⟩ := pI_eq (by decide) h32
      have e11 := e1
      rw [pNum_skip] at e11
      have w : pBook g len 9 [] a = .error er := by rw [← hR, show 9 - s.1 = (8 - s.1) + 1 by omega, pBook, if_neg h18, e11, xbn_err]
      exact ⟨by rw [w]; rfl, A00.err q1 e1 w, fun q hq => by rw [w] at hq; cases hq⟩
