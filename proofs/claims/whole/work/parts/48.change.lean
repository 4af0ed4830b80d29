/-! THE FACE: what changes things. Feeding, undoing, images -/
def CHG (M : MD) (as : List Value) (x : XS) (ra : Except Nat Int32 × AS) : Prop := MM M 40 1 6 as x (CP x ra.1 ra.2) (CT x ra.1 ra.2)
def setT (a : AS) (T : Nat → Nat) (h : Nat) (p : Int32) : AS := (a.1, a.2.1, (T, h, p), a.2.2.2)
def RSup (c : Nat) : Prop := c = 0 ∨ (2 ≤ c ∧ c ≤ 12) ∨ c = 24 ∨ c = 25 ∨ c = 27 ∨ c = 28 ∨ (33 ≤ c ∧ c ≤ 35) ∨ (43 ≤ c ∧ c ≤ 45) ∨ (55 ≤ c ∧ c < 133)
theorem RCw.fr {x y : XS} {a : AS} (h : RCw x a) (e : ∀ c, 55 ≤ c → c < 73 → y c = x c) : RCw y a := by
  refine ⟨?_, h.2.1, fun i hi => ?_⟩
  · rw [e 55 (by omega) (by omega)]; exact h.1
  · have := h.2.1
    rw [e (57 + i) (by omega) (by omega)]; exact h.2.2 i hi
theorem RCi.fr {x y : XS} {a : AS} (h : RCi x a) (e : ∀ c, 73 ≤ c → c < 133 → y c = x c) : RCi y a := by
  refine ⟨?_, h.2.1, fun i hi => ?_⟩
  · rw [e 73 (by omega) (by omega)]; exact h.1
  · have h3 := h.2.1
    obtain ⟨k1, k2, k3, k4⟩ := h.2.2 i hi
    refine ⟨?_, ?_, k3, fun j hj => ?_⟩
    · rw [e (75 + i) (by omega) (by omega)]; exact k1
    · rw [e (79 + 18 * i) (by omega) (by omega)]; exact k2
    · rw [e (81 + 18 * i + j) (by omega) (by omega)]; exact k4 j hj
theorem RC.tape {x y : XS} {a : AS} {T : Nat → Nat} {h : Nat} {p : Int32} (hC : RC x a) (hf : ∀ c, c ≠ 2 → RSup c → y c = x c) (h1 : y 1 1 = nI h) (h2 : h ≤ 600) (h3 : y 1 5 = p) (hT : ∀ j, j < 600 → y 2 j = nI (T j) ∧ T j < 256) : RC y (setT a T h p) := by
  obtain ⟨k1, k2, k3, k4, k5, k6, k7⟩ := hC
  have e : ∀ c, c ≠ 2 → RSup c → y c = x c := hf
  refine ⟨k1.fr (fun c hc => e c (by omega) (by unfold RSup; omega)), ?_, ⟨h1, h2, hT, h3⟩, ?_, k5.fr (fun c h1 h2 => e c (by omega) (by unfold RSup; omega)), k6.fr (fun c h1 h2 => e c (by omega) (by unfold RSup; omega)), ?_⟩
  · show RCn y a
    unfold RCn
    rw [e 44 (by omega) (by unfold RSup; omega), e 43 (by omega) (by unfold RSup; omega), e 45 (by omega) (by unfold RSup; omega)]
    exact k2
  · show RCb y a
    unfold RCb
    rw [e 33 (by omega) (by unfold RSup; omega), e 34 (by omega) (by unfold RSup; omega), e 35 (by omega) (by unfold RSup; omega)]
    exact k4
  · show RCc y a
    unfold RCc
    rw [e 0 (by omega) (by unfold RSup; omega)]
    exact k7
theorem RC.tp {x : XS} {a : AS} (h : RC x a) : ∀ j, j < 600 → x 2 j = nI (aT a j) ∧ aT a j < 256 := h.2.2.1.2.2.1
/-! feeding -/
def feedV (v1 v2 v3 v4 v5 : Int32) (i : Nat) : Int32 := byteV (if i < 4 then v1 else if i < 8 then v2 else if i < 12 then v3 else if i < 16 then v4 else v5) (i % 4)
def feedT (T : Nat → Nat) (h : Nat) (v1 v2 v3 v4 v5 : Int32) (j : Nat) : Nat := if h ≤ j ∧ j < h + 20 then nN (feedV v1 v2 v3 v4 v5 (j - h)) else T j
def oFeed (a : AS) (v1 v2 v3 v4 v5 : Int32) : Except Nat Int32 × AS := if aH a + 20 ≤ 600 then (.ok (nI (aH a + 20)), setT a (feedT (aT a) (aH a) v1 v2 v3 v4 v5) (aH a + 20) (aP a)) else (.ok (-1), a)
theorem byteV_is (v : Int32) (i : Nat) : byteV v i = nI (nN (byteV v i)) ∧ nN (byteV v i) < 256 := by
  obtain ⟨j, hj, e⟩ := pk_andE (((v.toUInt32 >>> ((shv i).toUInt32 &&& Int32.toUInt32 31)).toInt32)) (m := nI 255) 8 (by decide +kernel)
  have e : byteV v i = nI j := e
  rw [e, nN_nI (by omega)]
  exact ⟨rfl, hj⟩
theorem apX_n {x : XS} {v : Int32} {h c : Nat} (h1 : c ≠ 1) (h2 : c ≠ 2) : ∀ i, apX x v h i c = x c
  | 0 => rfl
  | i + 1 => by
    unfold apX
    rw [xu_n h1, xu_n h2]
    exact apX_n h1 h2 i
theorem apX_1 {x : XS} {v : Int32} {h k : Nat} (hk : k ≠ 1) : ∀ i, apX x v h i 1 k = x 1 k
  | 0 => rfl
  | i + 1 => by
    unfold apX
    rw [xu_k hk, xu_n (by decide)]
    exact apX_1 hk i
theorem apX_2 {x : XS} {v : Int32} {h : Nat} : ∀ i j, apX x v h i 2 j = if h ≤ j ∧ j < h + i then byteV v (j - h) else x 2 j
  | 0, j => by rw [if_neg (by omega)]; rfl
  | i + 1, j => by
    unfold apX
    rw [xu_n (by decide)]
    by_cases e : j = h + i
    · rw [e, xu_s, if_pos (by omega), show h + i - h = i by omega]
    · rw [xu_k e, apX_2 i j]
      by_cases h2 : h ≤ j ∧ j < h + i
      · rw [if_pos h2, if_pos (by omega)]
      · rw [if_neg h2, if_neg (by omega)]
def apx5 (x : XS) (h : Nat) (v1 v2 v3 v4 v5 : Int32) : XS := apX (apX (apX (apX (apX x v1 h 4) v2 (h + 4) 4) v3 (h + 8) 4) v4 (h + 12) 4) v5 (h + 16) 4
theorem apX_h4 {x : XS} {v : Int32} {h : Nat} : apX x v h 4 1 1 = nI (h + 4) := rfl
theorem apx5_2 {x : XS} {h j : Nat} {v1 v2 v3 v4 v5 : Int32} : apx5 x h v1 v2 v3 v4 v5 2 j = if h ≤ j ∧ j < h + 20 then feedV v1 v2 v3 v4 v5 (j - h) else x 2 j := by
  unfold apx5
  rw [apX_2, apX_2, apX_2, apX_2, apX_2]
  unfold feedV
  by_cases a5 : h + 16 ≤ j ∧ j < h + 16 + 4
  · rw [if_pos a5, if_pos (by omega), if_neg (by omega), if_neg (by omega), if_neg (by omega), if_neg (by omega), show (j - h) % 4 = j - (h + 16) by omega]
  rw [if_neg a5]
  by_cases a4 : h + 12 ≤ j ∧ j < h + 12 + 4
  · rw [if_pos a4, if_pos (by omega), if_neg (by omega), if_neg (by omega), if_neg (by omega), if_pos (by omega), show (j - h) % 4 = j - (h + 12) by omega]
  rw [if_neg a4]
  by_cases a3 : h + 8 ≤ j ∧ j < h + 8 + 4
  · rw [if_pos a3, if_pos (by omega), if_neg (by omega), if_neg (by omega), if_pos (by omega), show (j - h) % 4 = j - (h + 8) by omega]
  rw [if_neg a3]
  by_cases a2 : h + 4 ≤ j ∧ j < h + 4 + 4
  · rw [if_pos a2, if_pos (by omega), if_neg (by omega), if_pos (by omega), show (j - h) % 4 = j - (h + 4) by omega]
  rw [if_neg a2]
  by_cases a1 : h ≤ j ∧ j < h + 4
  · rw [if_pos a1, if_pos (by omega), if_pos (by omega), show (j - h) % 4 = j - h by omega]
  · rw [if_neg a1, if_neg (by omega)]
theorem apx5_n {x : XS} {h c : Nat} {v1 v2 v3 v4 v5 : Int32} (h1 : c ≠ 1) (h2 : c ≠ 2) : apx5 x h v1 v2 v3 v4 v5 c = x c := by
  unfold apx5
  rw [apX_n h1 h2, apX_n h1 h2, apX_n h1 h2, apX_n h1 h2, apX_n h1 h2]
theorem apx5_5 {x : XS} {h : Nat} {v1 v2 v3 v4 v5 : Int32} : apx5 x h v1 v2 v3 v4 v5 1 5 = x 1 5 := by
  unfold apx5
  rw [apX_1 (by decide), apX_1 (by decide), apX_1 (by decide), apX_1 (by decide), apX_1 (by decide)]
theorem feed_RC {x : XS} {a : AS} {v1 v2 v3 v4 v5 : Int32} (hC : RC x a) (h : aH a + 20 ≤ 600) : RC (apx5 x (aH a) v1 v2 v3 v4 v5) (setT a (feedT (aT a) (aH a) v1 v2 v3 v4 v5) (aH a + 20) (aP a)) := by
  refine hC.tape (fun c h2 hs => apx5_n (by unfold RSup at hs; omega) h2) rfl h (by rw [apx5_5]; exact hC.2.2.1.2.2.2) (fun j hj => ?_)
  rw [apx5_2]
  unfold feedT
  split
  · exact byteV_is _ _
  · exact hC.tp j hj
/-! undoing, images -/
def oUndo (a : AS) : Except Nat Int32 × AS := if aWn a = 0 then (.ok (-1), a) else (.ok (nI (aWn a - 1)), (a.1, aW a (aWn a - 1), a.2.2.1, a.2.2.2.1, (aWn a - 1, aW a), a.2.2.2.2.2.1, nI 0, a.2.2.2.2.2.2.2))
def oImage (a : AS) : Except Nat Int32 × AS := if aIn a < 3 then (.ok (nI (aIn a + 1)), (a.1, a.2.1, a.2.2.1, a.2.2.2.1, a.2.2.2.2.1, (aIn a + 1, (fun i => if i = aIn a then aR a else aI a i), (fun i => if i = aIn a then (aWn a, aW a) else aJ a i)), a.2.2.2.2.2.2)) else (.ok (-1), a)
def oRestore (a : AS) : Except Nat Int32 × AS := if 0 < aIn a then (.ok (nI (aIn a - 1)), (a.1, aI a (aIn a - 1), a.2.2.1, a.2.2.2.1, aJ a (aIn a - 1), (aIn a - 1, aI a, aJ a), nI 0, a.2.2.2.2.2.2.2)) else (.ok (-1), a)
def cpX (x : XS) (d s : Nat) : XS := xr x d (x s)
theorem cp_agr {x y : XS} {d s : Nat} (h : agr x y) (hd : csz d = 42) (hs : csz s = 42) : agr (cp42 x d s) (cpX y d s) := by
  intro c k hk
  unfold cp42 cpX
  by_cases e : c = d
  · subst e
    rw [xr_s, xr_s, pk_cpy_in (Nat.zero_le _) (by omega), show 0 + (k - 0) = k by omega]
    exact h s k (by omega)
  · rw [xr_n e, xr_n e]
    exact h c k hk
theorem agr.trans {x y z : XS} (h1 : agr x y) (h2 : agr y z) : agr x z := fun c k hk => (h1 c k hk).trans (h2 c k hk)
theorem agr.put {x y : XS} (h : agr x y) (c k : Nat) (v : Int32) : agr (xu x c k v) (xu y c k v) := by
  intro d j hj
  by_cases e : d = c
  · subst e
    by_cases e2 : j = k
    · rw [e2, xu_s, xu_s]
    · rw [xu_k e2, xu_k e2]
      exact h d j hj
  · rw [xu_n e, xu_n e]
    exact h d j hj
theorem csz_w {i : Nat} (h : i < 16) : csz (57 + i) = 42 := by
  have key : ∀ i, i < 16 → csz (57 + i) = 42 := by decide +kernel
  exact key i h
theorem csz_i {i : Nat} (h : i < 3) : csz (75 + i) = 42 ∧ ∀ j, j < 16 → csz (81 + 18 * i + j) = 42 := by
  have key : ∀ i, i < 3 → csz (75 + i) = 42 ∧ ∀ j, j < 16 → csz (81 + 18 * i + j) = 42 := by decide +kernel
  exact key i h
theorem csz_44 : csz 44 = 42 := by decide +kernel
theorem undo_RC {x : XS} {a : AS} {s : Nat} (hC : RC x a) (hs : aWn a = s + 1) : RC (xu (cpX (xu x 55 1 (nI s)) 44 (57 + s)) 0 14 (nI 0)) (oUndo a).2 := by
  obtain ⟨k1, k2, k3, k4, k5, k6, k7⟩ := hC
  have h16 := k5.2.1
  have e : ∀ c, c ≠ 0 → c ≠ 44 → c ≠ 55 → xu (cpX (xu x 55 1 (nI s)) 44 (57 + s)) 0 14 (nI 0) c = x c := fun c h1 h2 h3 => by
    rw [xu_n h1]
    unfold cpX
    rw [xr_n h2, xu_n h3]
  unfold oUndo
  rw [if_neg (by omega)]
  refine ⟨k1.fr (fun c hc => e c (by omega) (by omega) (by omega)), ⟨?_, k2.2.1, k2.2.2⟩, k3, k4, ⟨?_, by show aWn a - 1 ≤ 16; omega, fun i hi => ?_⟩, k6.fr (fun c h1 h2 => e c (by omega) (by omega) (by omega)), rfl, k7.2.1, k7.2.2⟩
  · show xu x 55 1 (nI s) (57 + s) = aW a (aWn a - 1)
    rw [xu_n (by omega), k5.2.2 s (by omega), hs]
    rfl
  · show nI s = nI (aWn a - 1)
    rw [hs]
    rfl
  · have hi : i < aWn a - 1 := hi
    rw [e (57 + i) (by omega) (by omega) (by omega)]
    exact k5.2.2 i (by omega)
/-- rows of a history, copied -/
def hcX (x : XS) (hd hs : Nat) : Nat → XS
  | 0 => xu x hd 1 (x hs 1)
  | i + 1 => cpX (hcX x hd hs i) (hd + 2 + i) (hs + 2 + i)
theorem hc_agr {x y : XS} {hd hs : Nat} (h : agr x y) (hl : 1 < csz hs) (h1 : ∀ i, i < 16 → csz (hd + 2 + i) = 42) (h2 : ∀ i, i < 16 → csz (hs + 2 + i) = 42) : ∀ n, n ≤ 16 → agr (hcpX x hd hs n) (hcX y hd hs n)
  | 0, _ => by
    show agr (xu x hd 1 (x hs 1)) (xu y hd 1 (y hs 1))
    rw [h hs 1 hl]
    exact h.put _ _ _
  | n + 1, hn => cp_agr (hc_agr h hl h1 h2 n (by omega)) (h1 n (by omega)) (h2 n (by omega))
theorem hcX_n {x : XS} {hd hs c : Nat} (h0 : c ≠ hd) : ∀ n, (∀ i, i < n → c ≠ hd + 2 + i) → hcX x hd hs n c = x c
  | 0, _ => xu_n h0
  | n + 1, h => by
    show xr (hcX x hd hs n) (hd + 2 + n) _ c = x c
    rw [xr_n (h n (by omega))]
    exact hcX_n h0 n (fun i hi => h i (by omega))
theorem hcX_row {x : XS} {hd hs : Nat} (hne : hd + 18 ≤ hs ∨ hs + 18 ≤ hd) : ∀ n, n ≤ 16 → ∀ i, i < n → hcX x hd hs n (hd + 2 + i) = x (hs + 2 + i)
  | 0, _, i, hi => by omega
  | n + 1, hn, i, hi => by
    show xr (hcX x hd hs n) (hd + 2 + n) (hcX x hd hs n (hs + 2 + n)) (hd + 2 + i) = _
    by_cases e : i = n
    · subst e
      rw [xr_s, hcX_n (by omega) i (fun j hj => by omega)]
    · rw [xr_n (by omega)]
      exact hcX_row hne n (by omega) i (by omega)
theorem hcX_sz {x : XS} {hd hs : Nat} : ∀ n, hcX x hd hs n hd 1 = x hs 1
  | 0 => xu_s
  | n + 1 => by
    show xr (hcX x hd hs n) (hd + 2 + n) _ hd 1 = _
    rw [xr_n (by omega)]
    exact hcX_sz n
def imgX (x : XS) (i s : Nat) : XS := xu (hcX (cpX x (75 + i) 44) (79 + 18 * i) 55 s) 73 2 (nI (i + 1))
theorem img_agr {x : XS} {i s : Nat} (hi : i < 3) (hs : s ≤ 16) (h73 : x 73 2 = nI i) : agr (akeepX x i s) (imgX x i s) := by
  unfold akeepX imgX alr alh
  rw [h73, nI_1']
  refine agr.put (hc_agr (cp_agr agr.rfl (csz_i hi).1 csz_44) (by decide +kernel) (fun j hj => ?_) (fun j hj => csz_w hj) s hs) _ _ _
  rw [show 79 + 18 * i + 2 + j = 81 + 18 * i + j by omega]
  exact (csz_i hi).2 j hj
theorem image_RC {x : XS} {a : AS} (hC : RC x a) (hi : aIn a < 3) : RC (imgX x (aIn a) (aWn a)) (oImage a).2 := by
  obtain ⟨k1, k2, k3, k4, k5, k6, k7⟩ := hC
  have h16 := k5.2.1
  have e : ∀ c, c ≠ 73 → c ≠ 75 + aIn a → c ≠ 79 + 18 * aIn a → (∀ j, j < aWn a → c ≠ 81 + 18 * aIn a + j) → imgX x (aIn a) (aWn a) c = x c := fun c h1 h2 h3 h4 => by
    unfold imgX
    rw [xu_n h1, hcX_n h3 _ (fun j hj => by have := h4 j hj; omega)]
    exact xr_n h2
  unfold oImage
  rw [if_pos hi]
  refine ⟨k1.fr (fun c hc => e c (by omega) (by omega) (by omega) (fun j hj => by omega)), ?_, ?_, ?_, k5.fr (fun c h1 h2 => e c (by omega) (by omega) (by omega) (fun j hj => by omega)), ⟨?_, by show aIn a + 1 ≤ 3; omega, fun i hi2 => ?_⟩, ?_⟩
  · show RCn _ a
    unfold RCn
    rw [e 44 (by omega) (by omega) (by omega) (fun j hj => by omega), e 43 (by omega) (by omega) (by omega) (fun j hj => by omega), e 45 (by omega) (by omega) (by omega) (fun j hj => by omega)]
    exact k2
  · show RCt _ a
    unfold RCt
    rw [e 1 (by omega) (by omega) (by omega) (fun j hj => by omega), e 2 (by omega) (by omega) (by omega) (fun j hj => by omega)]
    exact k3
  · show RCb _ a
    unfold RCb
    rw [e 33 (by omega) (by omega) (by omega) (fun j hj => by omega), e 34 (by omega) (by omega) (by omega) (fun j hj => by omega), e 35 (by omega) (by omega) (by omega) (fun j hj => by omega)]
    exact k4
  · unfold imgX
    rw [xu_s]
  · have hi2 : i < aIn a + 1 := hi2
    by_cases ei : i = aIn a
    · have w := hcX_row (x := cpX x (75 + aIn a) 44) (hd := 79 + 18 * aIn a) (hs := 55) (by omega) (aWn a) h16
      have w1 := hcX_sz (x := cpX x (75 + aIn a) 44) (hd := 79 + 18 * aIn a) (hs := 55) (aWn a)
      have w2 : hcX (cpX x (75 + aIn a) 44) (79 + 18 * aIn a) 55 (aWn a) (75 + aIn a) = x 44 := by
        rw [hcX_n (by omega) _ (fun j hj => by omega)]
        exact xr_s
      show imgX x (aIn a) (aWn a) (75 + i) = (if i = aIn a then aR a else aI a i) ∧ imgX x (aIn a) (aWn a) (79 + 18 * i) 1 = nI (if i = aIn a then (aWn a, aW a) else aJ a i).1 ∧ (if i = aIn a then (aWn a, aW a) else aJ a i).1 ≤ 16 ∧ ∀ j, j < (if i = aIn a then (aWn a, aW a) else aJ a i).1 → imgX x (aIn a) (aWn a) (81 + 18 * i + j) = (if i = aIn a then (aWn a, aW a) else aJ a i).2 j
      rw [if_pos ei, if_pos ei, ei]
      unfold imgX
      refine ⟨?_, ?_, h16, fun j hj => ?_⟩
      · rw [xu_n (by omega), w2]; exact k2.1
      · rw [xu_n (by omega), w1]
        show cpX x (75 + aIn a) 44 55 1 = _
        unfold cpX
        rw [xr_n (by omega)]
        exact k5.1
      · have hj : j < aWn a := hj
        rw [xu_n (by omega), show 81 + 18 * aIn a + j = 79 + 18 * aIn a + 2 + j by omega, w j hj]
        show cpX x (75 + aIn a) 44 (55 + 2 + j) = aW a j
        unfold cpX
        rw [xr_n (by omega)]
        exact k5.2.2 j hj
    · obtain ⟨q1, q2, q3, q4⟩ := k6.2.2 i (by omega)
      show imgX x (aIn a) (aWn a) (75 + i) = (if i = aIn a then aR a else aI a i) ∧ imgX x (aIn a) (aWn a) (79 + 18 * i) 1 = nI (if i = aIn a then (aWn a, aW a) else aJ a i).1 ∧ (if i = aIn a then (aWn a, aW a) else aJ a i).1 ≤ 16 ∧ ∀ j, j < (if i = aIn a then (aWn a, aW a) else aJ a i).1 → imgX x (aIn a) (aWn a) (81 + 18 * i + j) = (if i = aIn a then (aWn a, aW a) else aJ a i).2 j
      rw [if_neg ei, if_neg ei]
      refine ⟨?_, ?_, q3, fun j hj => ?_⟩
      · rw [e (75 + i) (by omega) (by omega) (by omega) (fun j hj => by omega)]; exact q1
      · rw [e (79 + 18 * i) (by omega) (by omega) (by omega) (fun j hj => by omega)]; exact q2
      · rw [e (81 + 18 * i + j) (by omega) (by omega) (by omega) (fun j2 hj2 => by omega)]; exact q4 j hj
  · show RCc _ a
    unfold RCc
    rw [e 0 (by omega) (by omega) (by omega) (fun j hj => by omega)]
    exact k7
def rstX (x : XS) (i s : Nat) : XS := hcX (cpX (xu x 73 2 (nI i)) 44 (75 + i)) 55 (79 + 18 * i) s
theorem rst_agr {x : XS} {i s : Nat} (hi : i < 3) (hs : s ≤ 16) (h73 : x 73 2 = nI (i + 1)) : agr (abackX x i s) (rstX x i s) := by
  unfold abackX rstX alr alh
  rw [h73, show nI (i + 1) - nI 1 = nI i from nI_pred i]
  refine hc_agr (cp_agr agr.rfl csz_44 (csz_i hi).1) ?_ (fun j hj => csz_w hj) (fun j hj => ?_) s hs
  · rcases (show i = 0 ∨ i = 1 ∨ i = 2 by omega) with rfl | rfl | rfl <;> decide +kernel
  · rw [show 79 + 18 * i + 2 + j = 81 + 18 * i + j by omega]
    exact (csz_i hi).2 j hj
theorem restore_RC {x : XS} {a : AS} {i : Nat} (hC : RC x a) (hi : aIn a = i + 1) : RC (xu (rstX x i (aJ a i).1) 0 14 (nI 0)) (oRestore a).2 := by
  obtain ⟨k1, k2, k3, k4, k5, k6, k7⟩ := hC
  have h3 := k6.2.1
  obtain ⟨q1, q2, q3, q4⟩ := k6.2.2 i (by omega)
  have e : ∀ c, c ≠ 0 → c ≠ 73 → c ≠ 44 → c ≠ 55 → (∀ j, j < (aJ a i).1 → c ≠ 57 + j) → xu (rstX x i (aJ a i).1) 0 14 (nI 0) c = x c := fun c h0 h1 h2 h3 h4 => by
    rw [xu_n h0]
    unfold rstX
    rw [hcX_n h3 _ (fun j hj => by have := h4 j hj; omega)]
    unfold cpX
    rw [xr_n h2, xu_n h1]
  have ei : aIn a - 1 = i := by omega
  unfold oRestore
  rw [if_pos (by omega), ei]
  refine ⟨k1.fr (fun c hc => e c (by omega) (by omega) (by omega) (by omega) (fun j hj => by omega)), ⟨?_, ?_, ?_⟩, ?_, ?_, ⟨?_, q3, fun j hj => ?_⟩, ⟨?_, by show i ≤ 3; omega, fun j hj => ?_⟩, rfl, ?_, ?_⟩
  · show xu (rstX x i (aJ a i).1) 0 14 (nI 0) 44 = aI a i
    rw [xu_n (by omega)]
    unfold rstX
    rw [hcX_n (by omega) _ (fun j hj => by omega)]
    unfold cpX
    rw [xr_s, xu_n (by omega)]
    exact q1
  · rw [e 43 (by omega) (by omega) (by omega) (by omega) (fun j hj => by omega)]; exact k2.2.1
  · rw [e 45 (by omega) (by omega) (by omega) (by omega) (fun j hj => by omega)]; exact k2.2.2
  · show RCt _ a
    unfold RCt
    rw [e 1 (by omega) (by omega) (by omega) (by omega) (fun j hj => by omega), e 2 (by omega) (by omega) (by omega) (by omega) (fun j hj => by omega)]
    exact k3
  · show RCb _ a
    unfold RCb
    rw [e 33 (by omega) (by omega) (by omega) (by omega) (fun j hj => by omega), e 34 (by omega) (by omega) (by omega) (by omega) (fun j hj => by omega), e 35 (by omega) (by omega) (by omega) (by omega) (fun j hj => by omega)]
    exact k4
  · rw [xu_n (by omega)]
    unfold rstX
    rw [hcX_sz]
    unfold cpX
    rw [xr_n (by omega), xu_n (by omega)]
    exact q2
  · have hj : j < (aJ a i).1 := hj
    rw [xu_n (by omega)]
    unfold rstX
    rw [show 57 + j = 55 + 2 + j by omega, hcX_row (by omega) _ q3 j hj]
    unfold cpX
    rw [xr_n (by omega), xu_n (by omega), show 79 + 18 * i + 2 + j = 81 + 18 * i + j by omega]
    exact q4 j hj
  · rw [xu_n (by omega)]
    unfold rstX
    rw [hcX_n (by omega) _ (fun j hj => by omega)]
    unfold cpX
    rw [xr_n (by omega), xu_s]
  · have hj : j < i := hj
    obtain ⟨p1, p2, p3, p4⟩ := k6.2.2 j (by omega)
    refine ⟨?_, ?_, p3, fun m hm => ?_⟩
    · rw [e (75 + j) (by omega) (by omega) (by omega) (by omega) (fun j hj => by omega)]; exact p1
    · rw [e (79 + 18 * j) (by omega) (by omega) (by omega) (by omega) (fun j hj => by omega)]; exact p2
    · rw [e (81 + 18 * j + m) (by omega) (by omega) (by omega) (by omega) (fun j hj => by omega)]; exact p4 m hm
  · show xu (rstX x i (aJ a i).1) 0 14 (nI 0) 0 15 = aU a
    rw [xu_k (by decide)]
    unfold rstX
    rw [hcX_n (by omega) _ (fun j hj => by omega)]
    exact k7.2.1
  · show xu (rstX x i (aJ a i).1) 0 14 (nI 0) 0 16 = aX a
    rw [xu_k (by decide)]
    unfold rstX
    rw [hcX_n (by omega) _ (fun j hj => by omega)]
    exact k7.2.2
theorem chg_ok {x y : XS} {ra : Except Nat Int32 × AS} {w : Int32} {b : AS} (h : ra = (.ok w, b)) (hC : RC y b) (hH : HI x y) : CP x ra.1 ra.2 (some (.int w)) y := by
  subst h
  exact ⟨w, rfl, rfl, hC, hH⟩
theorem chg_er {x y : XS} {ra : Except Nat Int32 × AS} {a : AS} (h : ra = (.error 1, bmX a)) (hC : RC x a) (hy : y = badX x) : CT x ra.1 ra.2 thI y := by
  subst h
  subst hy
  exact ⟨1, rfl, rfl, hC.bad, fun c hc => xu_n (by omega)⟩
set_option maxHeartbeats 8000000 in
set_option maxRecDepth 20000 in
theorem f_feed {a : AS} {x : XS} {v1 v2 v3 v4 v5 : Int32} (hC : RC x a) (hA : AI a) : CHG mX9_feed [.ref 0, .int v1, .int v2, .int v3, .int v4, .int v5] x (oFeed a v1 v2 v3 v4 v5) := by
  refine MM.of (by decide) (Nat.le_of_ble_eq_true rfl) ?_
  have y0 := lay_0
  have y1 := lay_1
  have hh := hC.2.2.1.1
  have h6 := hC.2.2.1.2.1
  refine r_aload_n dX9_feed_0 rfl (by rfl) ?_
  refine gf_X9_10 rfl dX9_feed_1 (by first | assumption | rfl) (by rfl) ?_
  refine r_callV (c_X8_hasRoom hh h6) mv_X8_hasRoom ml_X9_110 ⟨by decide, by decide⟩ dX9_feed_4 (by first | assumption | rfl) rfl rfl rfl (Nat.le_of_ble_eq_true rfl) (fun v9 x9 h9 => ?_)
  obtain ⟨rfl, h9⟩ := h9
  refine PW.xeq h9 ?_
  clear h9 x9
  refine r_if_neB (tgt := 12) dX9_feed_7 (by decide) (fun h7 => ?_) (fun h7 => ?_)
  · have h20 := of_decide_eq_true h7
    refine r_aload_n dX9_feed_12 rfl (by rfl) ?_
    refine gf_X9_10 rfl dX9_feed_13 (by first | assumption | rfl) (by rfl) ?_
    refine r_iload_n dX9_feed_16 rfl (by rfl) ?_
    refine r_callV (c_X8_append (h := aH a) hh (by omega)) mv_X8_append ml_X9_114 ⟨by decide, by decide⟩ dX9_feed_17 (by first | assumption | rfl) rfl rfl rfl (Nat.le_of_ble_eq_true rfl) (fun v9 x9 h9 => ?_)
    obtain ⟨rfl, h9⟩ := h9
    refine PW.xeq h9 ?_
    clear h9 x9
    refine r_aload_n dX9_feed_20 rfl (by rfl) ?_
    refine gf_X9_10 rfl dX9_feed_21 (by first | assumption | rfl) (by rfl) ?_
    refine r_iload_n dX9_feed_24 rfl (by rfl) ?_
    refine r_callV (c_X8_append (h := aH a + 4) apX_h4 (by omega)) mv_X8_append ml_X9_114 ⟨by decide, by decide⟩ dX9_feed_25 (by first | assumption | rfl) rfl rfl rfl (Nat.le_of_ble_eq_true rfl) (fun v9 x9 h9 => ?_)
    obtain ⟨rfl, h9⟩ := h9
    refine PW.xeq h9 ?_
    clear h9 x9
    refine r_aload_n dX9_feed_28 rfl (by rfl) ?_
    refine gf_X9_10 rfl dX9_feed_29 (by first | assumption | rfl) (by rfl) ?_
    refine r_iload_n dX9_feed_32 rfl (by rfl) ?_
    refine r_callV (c_X8_append (h := aH a + 8) apX_h4 (by omega)) mv_X8_append ml_X9_114 ⟨by decide, by decide⟩ dX9_feed_33 (by first | assumption | rfl) rfl rfl rfl (Nat.le_of_ble_eq_true rfl) (fun v9 x9 h9 => ?_)
    obtain ⟨rfl, h9⟩ := h9
    refine PW.xeq h9 ?_
    clear h9 x9
    refine r_aload_n dX9_feed_36 rfl (by rfl) ?_
    refine gf_X9_10 rfl dX9_feed_37 (by first | assumption | rfl) (by rfl) ?_
    refine r_iload dX9_feed_40 (by rfl) ?_
    refine r_callV (c_X8_append (h := aH a + 12) apX_h4 (by omega)) mv_X8_append ml_X9_114 ⟨by decide, by decide⟩ dX9_feed_42 (by first | assumption | rfl) rfl rfl rfl (Nat.le_of_ble_eq_true rfl) (fun v9 x9 h9 => ?_)
    obtain ⟨rfl, h9⟩ := h9
    refine PW.xeq h9 ?_
    clear h9 x9
    refine r_aload_n dX9_feed_45 rfl (by rfl) ?_
    refine gf_X9_10 rfl dX9_feed_46 (by first | assumption | rfl) (by rfl) ?_
    refine r_iload dX9_feed_49 (by rfl) ?_
    refine r_callV (c_X8_append (h := aH a + 16) apX_h4 (by omega)) mv_X8_append ml_X9_114 ⟨by decide, by decide⟩ dX9_feed_51 (by first | assumption | rfl) rfl rfl rfl (Nat.le_of_ble_eq_true rfl) (fun v9 x9 h9 => ?_)
    obtain ⟨rfl, h9⟩ := h9
    refine PW.xeq h9 ?_
    clear h9 x9
    refine r_aload_n dX9_feed_54 rfl (by rfl) ?_
    refine gf_X9_10 rfl dX9_feed_55 (by first | assumption | rfl) (by rfl) ?_
    refine gf_X9_118 rfl dX9_feed_58 (by first | assumption | rfl) (by rfl) ?_
    refine r_iretW rfl dX9_feed_61 ?_
    exact chg_ok (by unfold oFeed; rw [if_pos h20]; rfl) (feed_RC hC h20) (fun c hc => apx5_n (by omega) (by omega))
  · refine r_iconst (v := -1) dX9_feed_10 (by decide) ?_
    refine r_iretW rfl dX9_feed_11 ?_
    exact chg_ok (by unfold oFeed; rw [if_neg (of_decide_eq_false h7)]) hC (fun _ _ => rfl)
set_option maxHeartbeats 8000000 in
set_option maxRecDepth 20000 in
theorem f_undo {a : AS} {x : XS} (hC : RC x a) (hA : AI a) : CHG mX9_undo [.ref 0] x (oUndo a) := by
  refine MM.of (by decide) (Nat.le_of_ble_eq_true rfl) ?_
  have y0 := lay_0
  have y43 := lay_43
  have y55 := lay_55
  have hw := hC.2.2.2.2.1.1
  have h16 := hC.2.2.2.2.1.2.1
  refine r_aload_n dX9_undo_0 rfl (by rfl) ?_
  refine gf_X9_69 rfl dX9_undo_1 (by first | assumption | rfl) (by rfl) ?_
  refine gf_X9_139 rfl dX9_undo_4 (by first | assumption | rfl) (by rfl) ?_
  refine PW.topi hw ?_
  refine r_if_ne (tgt := 12) dX9_undo_7 (by decide) (fun h7 => ?_) (fun h7 => ?_)
  · obtain ⟨s, hs⟩ : ∃ s, aWn a = s + 1 := ⟨aWn a - 1, by
      by_cases e : aWn a = 0
      · exact absurd (by rw [e]; rfl) h7
      · omega⟩
    refine r_aload_n dX9_undo_12 rfl (by rfl) ?_
    refine gf_X9_69 rfl dX9_undo_13 (by first | assumption | rfl) (by rfl) ?_
    refine r_aload_n dX9_undo_16 rfl (by rfl) ?_
    refine gf_X9_59 rfl dX9_undo_17 (by first | assumption | rfl) (by rfl) ?_
    refine gf_X9_162 rfl dX9_undo_20 (by first | assumption | rfl) (by rfl) ?_
    refine r_callV (c_X2_takeBack (s := s) (by rw [← hs]; exact hw) (by omega)) mv_X2_takeBack ml_X9_187 ⟨by decide, by decide⟩ dX9_undo_23 (by first | assumption | rfl) rfl rfl rfl (Nat.le_of_ble_eq_true rfl) (fun v9 x9 h9 => ?_)
    obtain ⟨rfl, h9⟩ := h9
    refine PW.xeq h9 ?_
    clear h9 x9
    refine PW.agr (x' := cpX (xu x 55 1 (nI s)) 44 (57 + s)) ?_ ?_
    · unfold hbackX
      rw [hw, hs, show nI (s + 1) - nI 1 = nI s from nI_pred s]
      exact cp_agr agr.rfl csz_44 (csz_w (by omega))
    refine r_aload_n dX9_undo_26 rfl (by rfl) ?_
    refine r_iconst (v := nI 0) dX9_undo_27 (by decide) ?_
    refine pf_X9_91 rfl dX9_undo_28 (by first | assumption | rfl) (by rfl) ?_
    refine r_aload_n dX9_undo_31 rfl (by rfl) ?_
    refine gf_X9_69 rfl dX9_undo_32 (by first | assumption | rfl) (by rfl) ?_
    refine gf_X9_139 rfl dX9_undo_35 (by first | assumption | rfl) (by rfl) ?_
    refine r_iretW rfl dX9_undo_38 ?_
    refine chg_ok (b := (oUndo a).2) (by unfold oUndo; rw [if_neg (by omega), hs]; rfl) (undo_RC hC hs) (fun c hc => ?_)
    rw [xu_n (by omega)]
    unfold cpX
    rw [xr_n (by omega), xu_n (by omega)]
  · refine r_iconst (v := -1) dX9_undo_10 (by decide) ?_
    refine r_iretW rfl dX9_undo_11 ?_
    have e0 : aWn a = 0 := (nI_eq (by omega) (by decide)).mp (show nI (aWn a) = nI 0 from h7)
    exact chg_ok (by unfold oUndo; rw [if_pos e0]) hC (fun _ _ => rfl)
set_option maxHeartbeats 8000000 in
set_option maxRecDepth 20000 in
theorem f_image {a : AS} {x : XS} (hC : RC x a) (hA : AI a) : CHG mX9_image [.ref 0] x (oImage a) := by
  refine MM.of (by decide) (Nat.le_of_ble_eq_true rfl) ?_
  have y0 := lay_0
  have y43 := lay_43
  have y73 := lay_73
  have y55 := lay_55
  have hw := hC.2.2.2.2.1.1
  have h16 := hC.2.2.2.2.1.2.1
  have hi := hC.2.2.2.2.2.1.1
  have h3 := hC.2.2.2.2.2.1.2.1
  refine r_aload_n dX9_image_0 rfl (by rfl) ?_
  refine gf_X9_76 rfl dX9_image_1 (by first | assumption | rfl) (by rfl) ?_
  refine r_aload_n dX9_image_4 rfl (by rfl) ?_
  refine gf_X9_59 rfl dX9_image_5 (by first | assumption | rfl) (by rfl) ?_
  refine gf_X9_162 rfl dX9_image_8 (by first | assumption | rfl) (by rfl) ?_
  refine r_aload_n dX9_image_11 rfl (by rfl) ?_
  refine gf_X9_69 rfl dX9_image_12 (by first | assumption | rfl) (by rfl) ?_
  refine r_callV (c_X0_keep hi h3 hw h16) mv_X0_keep ml_X9_335 ⟨by decide, by decide⟩ dX9_image_15 (by first | assumption | rfl) rfl rfl rfl (Nat.le_of_ble_eq_true rfl) (fun v9 x9 h9 => ?_)
  obtain ⟨rfl, h9⟩ := h9
  refine PW.xeq h9 ?_
  clear h9 x9
  refine r_if_eqB (tgt := 31) dX9_image_18 (by decide) (fun h18 => ?_) (fun h18 => ?_)
  · have i3 := of_decide_eq_false h18
    refine PW.xeq (if_neg i3) ?_
    refine r_iconst (v := -1) dX9_image_31 (by decide) ?_
    refine r_iretW rfl dX9_image_32 ?_
    first
      | exact chg_ok (by unfold oImage; rw [if_neg i3]) hC (fun _ _ => rfl)
      | (refine chg_ok (b := (oImage a).2) (by unfold oImage; rw [if_pos i3]; rfl) (image_RC hC i3) (fun c hc => ?_)
         unfold imgX
         rw [xu_n (by omega), hcX_n (by omega) _ (fun j hj => by omega)]
         exact xr_n (by omega))
  · have i3 := of_decide_eq_true h18
    refine PW.xeq (if_pos i3) ?_
    refine PW.agr (img_agr i3 h16 hi) ?_
    refine r_aload_n dX9_image_21 rfl (by rfl) ?_
    refine gf_X9_76 rfl dX9_image_22 (by first | assumption | rfl) (by rfl) ?_
    refine gf_X9_140 rfl dX9_image_25 (by first | assumption | rfl) (by rfl) ?_
    refine r_goto (tgt := 32) dX9_image_28 (by decide) ?_
    refine r_iretW rfl dX9_image_32 ?_
    first
      | exact chg_ok (by unfold oImage; rw [if_neg i3]) hC (fun _ _ => rfl)
      | (refine chg_ok (b := (oImage a).2) (by unfold oImage; rw [if_pos i3]; rfl) (image_RC hC i3) (fun c hc => ?_)
         unfold imgX
         rw [xu_n (by omega), hcX_n (by omega) _ (fun j hj => by omega)]
         exact xr_n (by omega))
set_option maxHeartbeats 8000000 in
set_option maxRecDepth 20000 in
theorem f_restore {a : AS} {x : XS} (hC : RC x a) (hA : AI a) : CHG mX9_restore [.ref 0] x (oRestore a) := by
  refine MM.of (by decide) (Nat.le_of_ble_eq_true rfl) ?_
  have y0 := lay_0
  have y43 := lay_43
  have y73 := lay_73
  have y55 := lay_55
  have hi := hC.2.2.2.2.2.1.1
  have h3 := hC.2.2.2.2.2.1.2.1
  have hj : 0 < aIn a → (aJ a (aIn a - 1)).1 ≤ 16 ∧ x (alh (aIn a - 1)) 1 = nI (aJ a (aIn a - 1)).1 := fun h => ⟨(hC.2.2.2.2.2.1.2.2 (aIn a - 1) (by omega)).2.2.1, (hC.2.2.2.2.2.1.2.2 (aIn a - 1) (by omega)).2.1⟩
  have hz : 0 < aIn a ∨ aIn a = 0 := by omega
  obtain ⟨m, hm, hm2⟩ : ∃ m, m ≤ 16 ∧ (0 < aIn a → x (alh (aIn a - 1)) 1 = nI m ∧ m = (aJ a (aIn a - 1)).1) := by
    rcases hz with h | h
    · exact ⟨_, (hj h).1, fun _ => ⟨(hj h).2, rfl⟩⟩
    · exact ⟨0, by decide, fun h2 => by omega⟩
  refine r_aload_n dX9_restore_0 rfl (by rfl) ?_
  refine gf_X9_76 rfl dX9_restore_1 (by first | assumption | rfl) (by rfl) ?_
  refine r_aload_n dX9_restore_4 rfl (by rfl) ?_
  refine gf_X9_59 rfl dX9_restore_5 (by first | assumption | rfl) (by rfl) ?_
  refine gf_X9_162 rfl dX9_restore_8 (by first | assumption | rfl) (by rfl) ?_
  refine r_aload_n dX9_restore_11 rfl (by rfl) ?_
  refine gf_X9_69 rfl dX9_restore_12 (by first | assumption | rfl) (by rfl) ?_
  refine r_callV (c_X0_takeBack (s := m) hi h3 (fun h => (hm2 h).1) hm) mv_X0_takeBack ml_X9_338 ⟨by decide, by decide⟩ dX9_restore_15 (by first | assumption | rfl) rfl rfl rfl (Nat.le_of_ble_eq_true rfl) (fun v9 x9 h9 => ?_)
  obtain ⟨rfl, h9⟩ := h9
  refine PW.xeq h9 ?_
  clear h9 x9
  refine r_if_neB (tgt := 23) dX9_restore_18 (by decide) (fun h18 => ?_) (fun h18 => ?_)
  · have i3 := of_decide_eq_true h18
    obtain ⟨i, ei⟩ : ∃ i, aIn a = i + 1 := ⟨aIn a - 1, by omega⟩
    have em : m = (aJ a i).1 := by rw [(hm2 i3).2, ei]; rfl
    refine PW.xeq (x' := abackX x i (aJ a i).1) (by rw [if_pos i3, em, ei]; rfl) ?_
    refine PW.agr (rst_agr (by omega) (by omega) (by rw [hi, ei])) ?_
    refine r_aload_n dX9_restore_23 rfl (by rfl) ?_
    refine r_iconst (v := nI 0) dX9_restore_24 (by decide) ?_
    refine pf_X9_91 rfl dX9_restore_25 (by first | assumption | rfl) (by rfl) ?_
    refine r_aload_n dX9_restore_28 rfl (by rfl) ?_
    refine gf_X9_76 rfl dX9_restore_29 (by first | assumption | rfl) (by rfl) ?_
    refine gf_X9_140 rfl dX9_restore_32 (by first | assumption | rfl) (by rfl) ?_
    refine PW.topi (show _ = nI i from (by
      show xu (rstX x i (aJ a i).1) 0 14 (nI 0) 73 2 = nI i
      rw [xu_n (by decide)]
      unfold rstX
      rw [hcX_n (by omega) _ (fun j hj => by omega)]
      rfl)) ?_
    refine r_iretW rfl dX9_restore_35 ?_
    refine chg_ok (b := (oRestore a).2) (by unfold oRestore; rw [if_pos i3, ei]; rfl) (restore_RC hC ei) (fun c hc => ?_)
    rw [xu_n (by omega)]
    unfold rstX
    rw [hcX_n (by omega) _ (fun j hj => by omega)]
    unfold cpX
    rw [xr_n (by omega), xu_n (by omega)]
  · have i3 := of_decide_eq_false h18
    refine PW.xeq (if_neg i3) ?_
    refine r_iconst (v := -1) dX9_restore_21 (by decide) ?_
    refine r_iretW rfl dX9_restore_22 ?_
    exact chg_ok (by unfold oRestore; rw [if_neg i3]) hC (fun _ _ => rfl)
