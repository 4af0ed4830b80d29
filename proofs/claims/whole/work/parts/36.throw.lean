/-! THROWING -/
def dW : Cond := .initialized ""
def thN : List String := ["java/lang/RuntimeException", "java/lang/Exception"]
def thI : String := "java/lang/IllegalArgumentException"
def thS : String := "java/util/NoSuchElementException"
def thOK (i : Nat) : Bool := decide (i < 1808) && (goodWord (tables_1.getD i dW) || decide (i = 449) || decide (i = 852) || decide (i = 450) || decide (i = 452) || decide (i = 454))
theorem th_at : tables_1.length = 1808 := by decide +kernel
theorem th_449 : tables_1.getD 449 dW = .castable thI thI := by decide +kernel
theorem th_852 : tables_1.getD 852 dW = .castable thS thS := by decide +kernel
theorem th_450 : tables_1.getD 450 dW = .declares ⟨"java/lang/RuntimeException", "<init>", "()V"⟩ := by decide +kernel
theorem th_452 : tables_1.getD 452 dW = .declares ⟨"java/lang/Exception", "<init>", "()V"⟩ := by decide +kernel
theorem th_454 : tables_1.getD 454 dW = .declares ⟨"java/lang/Throwable", "<init>", "()V"⟩ := by decide +kernel
theorem th_words {G : GG} {args : Array Value} {s : State} {L : List Cond} (hw : ∀ w ∈ WS, w.before args s = true) (hE : EV G s) (idx : List Nat) (e : L = idx.map (fun i => tables_1.getD i dW)) (h : idx.all thOK = true) : ∀ w ∈ L, w.before args s = true := by
  intro w hw9
  rw [e] at hw9
  obtain ⟨i, hi, rfl⟩ := List.mem_map.mp hw9
  have hi2 := List.all_eq_true.mp h i hi
  unfold thOK at hi2
  simp only [Bool.and_eq_true, Bool.or_eq_true, decide_eq_true_eq] at hi2
  obtain ⟨hlt, hi2⟩ := hi2
  rcases hi2 with ((((hg | rfl) | rfl) | rfl) | rfl) | rfl
  · refine hw _ (ws_t i ?_ hg)
    rw [List.getD_eq_getElem?_getD, List.getElem?_eq_getElem (by rw [th_at]; exact hlt)]
    rfl
  · rw [th_449]
    exact va_Nw.use rfl hE.2.2.1
  · rw [th_852]
    exact va_Nw.use rfl hE.2.2.2.1
  · rw [th_450]
    exact va_Nw.use rfl (hE.2.2.2.2 _ (by decide +kernel))
  · rw [th_452]
    exact va_Nw.use rfl (hE.2.2.2.2 _ (by decide +kernel))
  · rw [th_454]
    exact va_Nw.use rfl (hE.2.2.2.2 _ (by decide +kernel))
def thI_ix : List Nat := [13, 469, 478, 481, 484, 486, 470, 471, 30, 31, 472, 477, 482, 498, 459, 499, 461, 500, 463, 473, 475, 465, 488, 489, 490, 491, 450, 491, 492, 493, 494, 452, 494, 495, 496, 470, 454, 487, 448, 449, 456, 457, 458, 460, 462, 464, 468, 467, 466]
def thS_ix : List Nat := [13, 469, 478, 481, 484, 486, 470, 471, 30, 31, 472, 477, 482, 498, 459, 499, 461, 500, 463, 473, 475, 465, 860, 861, 862, 491, 450, 491, 492, 493, 494, 452, 494, 495, 496, 470, 454, 859, 851, 852, 853, 480, 854, 855, 856, 857, 468, 467, 858]
theorem thI_eq : vx_at0 "FirstAsleep" 342 thI thN = thI_ix.map (fun i => tables_1.getD i dW) := by decide +kernel
theorem thS_eq : vx_at0 "FirstAsleep" 345 thS thN = thS_ix.map (fun i => tables_1.getD i dW) := by decide +kernel
theorem thI_all : thI_ix.all thOK = true := by decide +kernel
theorem thS_all : thS_ix.all thOK = true := by decide +kernel
theorem thI_k : Cond.classLink "FirstAsleep" 340 thI ∈ WS := ws_t 447 (by decide +kernel) (by decide +kernel)
theorem thS_k : Cond.classLink "FirstAsleep" 343 thS ∈ WS := ws_t 850 (by decide +kernel) (by decide +kernel)
theorem thI_i : Cond.initialized thI ∈ WS := ws_t 16 (by decide +kernel) (by decide +kernel)
theorem thS_i : Cond.initialized thS ∈ WS := ws_t 22 (by decide +kernel) (by decide +kernel)
theorem thI_g : ∀ w ∈ Cond.classLink "FirstAsleep" 340 thI :: Cond.initialized thI :: vx_at0 "FirstAsleep" 342 thI thN, vx_ot w = true := by decide +kernel
theorem thS_g : ∀ w ∈ Cond.classLink "FirstAsleep" 343 thS :: Cond.initialized thS :: vx_at0 "FirstAsleep" 345 thS thN, vx_ot w = true := by decide +kernel
theorem Holds.kept {G : GG} {x : XS} {H H1 : Heap} (h : Holds G x H) (hq : ∀ q : Nat, q < H.size → H1[q]? = H[q]?) : Holds G x H1 := fun c hc => (h c hc).kept (hq _ (h c hc).lt)
section Throw
variable {M : MD} {Post : Option Value → XS → Prop} {PT : String → XS → Prop} {pc d : Nat} {L : List (Nat × Value)} {st : List Value} {x : XS}
theorem r_throwW {cls : String} {ik ic : Nat} (hM : M.1.cls = "FirstAsleep") (hfit : Bundle.fit cls = true) (hk : Cond.classLink "FirstAsleep" ik cls ∈ WS) (hi : Cond.initialized cls ∈ WS) (hg : ∀ w ∈ Cond.classLink "FirstAsleep" ik cls :: Cond.initialized cls :: vx_at0 "FirstAsleep" ic cls thN, vx_ot w = true)
    (hat : ∀ (G : GG) (args : Array Value) (s : State), (∀ w ∈ WS, w.before args s = true) → EV G s → ∀ w ∈ vx_at0 "FirstAsleep" ic cls thN, w.before args s = true)
    (d0 : decode M.2.1 pc = .ok (.new ik, 3)) (d3 : decode M.2.1 (pc + 3) = .ok (.dup, 1)) (d4 : decode M.2.1 (pc + 4) = .ok (.invokespecial ic, 3)) (d7 : decode M.2.1 (pc + 7) = .ok (.athrow, 1))
    (hd : 6 ≤ d) (hst : (st.map fun v => v.category).sum ≤ 8) (hp : PT cls x) : PW M (RM d 1 6) 1 6 Post PT pc L st x := by
  intro p l e s m args below meth c G H locs ls C hH hS hL
  have hst2 : ((st.map (tr G)).map fun v => v.category).sum ≤ 8 := by
    have e9 : ((st.map (tr G)).map fun v => v.category) = st.map fun v => v.category := by rw [List.map_map]; exact List.map_congr_left (fun v _ => tr_cat G v)
    rw [e9]
    exact hst
  have X := C.2.2.2.2.2.2.2.2.2.1
  exact vx_throw0 (own := "FirstAsleep") (cls := cls) (names := thN) (ik := ik) (ic := ic) (A := AA G s.heap.size) C.1 C.2.1 C.2.2.2.2.2.2.2.2.2.2.1 (by rw [← hM]; exact C.2.2.2.1) hfit (by decide +kernel) (C.2.2.2.2.1 _ hk) (C.2.2.2.2.1 _ hi) (hat G args s C.2.2.2.2.1 C.2.2.2.2.2.1) hg X.2.2.2.2.2.2.2.1 X.2.2.2.2.2.2.2.2 hS (hL.1.trans C.2.2.1.symm) d0 d3 d4 d7 (fun z hz => (C.2.2.2.2.2.2.2.2.2.2.2 z hz).elim) (show 2 + 3 < d by omega) (show _ + (13 * 3 + 42) ≤ 64 * d by omega) (Nat.le_refl _) (Nat.le_refl _) C.2.2.2.2.2.2.2.1 (fun t _ h1 h2 => ⟨⟨x, hp, hH.kept h2⟩, Nat.le_trans hS.1 h1, fun q hq hA => (h2 q (Nat.lt_of_lt_of_le hq hS.1)).trans (hS.2.1 q hq hA)⟩) hS.2.2 (Nat.le_refl _) (Nat.le_refl _)
theorem r_throwI (hM : M.1.cls = "FirstAsleep") (d0 : decode M.2.1 pc = .ok (.new 340, 3)) (d3 : decode M.2.1 (pc + 3) = .ok (.dup, 1)) (d4 : decode M.2.1 (pc + 4) = .ok (.invokespecial 342, 3)) (d7 : decode M.2.1 (pc + 7) = .ok (.athrow, 1)) (hd : 6 ≤ d) (hst : (st.map fun v => v.category).sum ≤ 8) (hp : PT thI x) : PW M (RM d 1 6) 1 6 Post PT pc L st x := r_throwW hM (by decide +kernel) thI_k thI_i thI_g (fun G args s hw hE => th_words hw hE thI_ix thI_eq thI_all) d0 d3 d4 d7 hd hst hp
theorem r_throwS (hM : M.1.cls = "FirstAsleep") (d0 : decode M.2.1 pc = .ok (.new 343, 3)) (d3 : decode M.2.1 (pc + 3) = .ok (.dup, 1)) (d4 : decode M.2.1 (pc + 4) = .ok (.invokespecial 345, 3)) (d7 : decode M.2.1 (pc + 7) = .ok (.athrow, 1)) (hd : 6 ≤ d) (hst : (st.map fun v => v.category).sum ≤ 8) (hp : PT thS x) : PW M (RM d 1 6) 1 6 Post PT pc L st x := r_throwW hM (by decide +kernel) thS_k thS_i thS_g (fun G args s hw hE => th_words hw hE thS_ix thS_eq thS_all) d0 d3 d4 d7 hd hst hp
end Throw
/-! HELPERS OF THE FACE -/
def inB (v lo hi : Int32) : Bool := decide (lo ≤ v) && decide (v ≤ hi)
theorem inB_N {k lo hi : Nat} (h1 : lo ≤ k) (h2 : k ≤ hi) (hh : hi < 2 ^ 31) : inB (nI k) (nI lo) (nI hi) = true := by
  unfold inB
  rw [decide_eq_true (nI_le h1 (by omega)), decide_eq_true (nI_le h2 hh)]
  rfl
/-- a number within bounds is a natural number -/
theorem inB_is {v : Int32} {lo hi : Nat} (h : inB v (nI lo) (nI hi) = true) (hh : hi < 2 ^ 31) (hl : lo ≤ hi) : ∃ k, lo ≤ k ∧ k ≤ hi ∧ v = nI k := by
  unfold inB at h
  simp only [Bool.and_eq_true, decide_eq_true_eq] at h
  have h0 : ¬ v < 0 := Int32.not_lt.mpr (Int32.le_trans (nI_pos' (by omega)) h.1)
  obtain ⟨j, hj, rfl⟩ := nI_of h0
  exact ⟨j, (nI_leI (by omega) hj).mp h.1, (nI_leI hj hh).mp h.2, rfl⟩
def badX (x : XS) : XS := xu x 0 16 (x 0 16 + nI 1)
def nobX (x : XS) : XS := xu x 0 15 (x 0 15 + nI 1)
set_option maxHeartbeats 8000000 in
set_option maxRecDepth 20000 in
theorem c_X9_within {v lo hi : Int32} {x : XS} : MM mX9_within 0 0 0 [.int v, .int lo, .int hi] x (fun w x1 => w = some (.int (bI (inB v lo hi))) ∧ x1 = x) NoT := by
  refine MM.of (by decide) (Nat.le_of_ble_eq_true rfl) ?_
  refine r_iload_n dX9_within_0 rfl (by rfl) ?_
  refine r_iload_n dX9_within_1 rfl (by rfl) ?_
  refine r_icmp_lt (tgt := 14) dX9_within_2 (by decide) (fun h2 => ?_) (fun h2 => ?_)
  · refine r_iconst (v := nI 0) dX9_within_14 (by decide) ?_
    refine r_zret rfl (by first | exact bI_01 _ | exact Or.inl rfl | exact Or.inr rfl) dX9_within_15 ?_
    refine ⟨?_, rfl⟩
    unfold inB
    first
      | (rw [decide_eq_false (Int32.not_le.mpr h2)]; rfl)
      | (rw [decide_eq_true (Int32.not_lt.mp h2), decide_eq_false (Int32.not_le.mpr h7)]; rfl)
      | (rw [decide_eq_true (Int32.not_lt.mp h2), decide_eq_true (Int32.not_lt.mp h7)]; rfl)
  · refine r_iload_n dX9_within_5 rfl (by rfl) ?_
    refine r_iload_n dX9_within_6 rfl (by rfl) ?_
    refine r_icmp_gt (tgt := 14) dX9_within_7 (by decide) (fun h7 => ?_) (fun h7 => ?_)
    · refine r_iconst (v := nI 0) dX9_within_14 (by decide) ?_
      refine r_zret rfl (by first | exact bI_01 _ | exact Or.inl rfl | exact Or.inr rfl) dX9_within_15 ?_
      refine ⟨?_, rfl⟩
      unfold inB
      first
        | (rw [decide_eq_false (Int32.not_le.mpr h2)]; rfl)
        | (rw [decide_eq_true (Int32.not_lt.mp h2), decide_eq_false (Int32.not_le.mpr h7)]; rfl)
        | (rw [decide_eq_true (Int32.not_lt.mp h2), decide_eq_true (Int32.not_lt.mp h7)]; rfl)
    · refine r_iconst (v := nI 1) dX9_within_10 (by decide) ?_
      refine r_goto (tgt := 15) dX9_within_11 (by decide) ?_
      refine r_zret rfl (by first | exact bI_01 _ | exact Or.inl rfl | exact Or.inr rfl) dX9_within_15 ?_
      refine ⟨?_, rfl⟩
      unfold inB
      first
        | (rw [decide_eq_false (Int32.not_le.mpr h2)]; rfl)
        | (rw [decide_eq_true (Int32.not_lt.mp h2), decide_eq_false (Int32.not_le.mpr h7)]; rfl)
        | (rw [decide_eq_true (Int32.not_lt.mp h2), decide_eq_true (Int32.not_lt.mp h7)]; rfl)
theorem c_within_t {v lo hi : Int32} {x : XS} (h : inB v lo hi = true) : MM mX9_within 0 0 0 [.int v, .int lo, .int hi] x (fun w x1 => w = some (.int (bI true)) ∧ x1 = x) NoT := by
  rw [← h]
  exact c_X9_within
set_option maxHeartbeats 8000000 in
set_option maxRecDepth 20000 in
theorem c_require_t {x : XS} : MM mX9_require 0 0 0 [.ref 0, .int (bI true)] x (fun v x1 => v = none ∧ x1 = x) NoT := by
  refine MM.of (by decide) (Nat.le_of_ble_eq_true rfl) ?_
  have y0 := lay_0
  refine r_iload_n dX9_require_0 rfl (by rfl) ?_
  refine r_if_neB (tgt := 22) dX9_require_1 (by decide) (fun _ => ?_) (fun h => by cases h)
  refine r_ret rfl dX9_require_22 ?_
  exact ⟨rfl, rfl⟩
set_option maxHeartbeats 8000000 in
set_option maxRecDepth 20000 in
theorem c_require_f {x : XS} : MM mX9_require 6 1 6 [.ref 0, .int (bI false)] x (fun _ _ => False) (fun E x1 => E = thI ∧ x1 = badX x) := by
  refine MM.of (by decide) (Nat.le_of_ble_eq_true rfl) ?_
  have y0 := lay_0
  refine r_iload_n dX9_require_0 rfl (by rfl) ?_
  refine r_if_neB (tgt := 22) dX9_require_1 (by decide) (fun h => by cases h) (fun _ => ?_)
  refine r_aload_n dX9_require_4 rfl (by rfl) ?_
  refine r_dup dX9_require_5 rfl ?_
  refine gf_X9_98 rfl dX9_require_6 (by first | assumption | rfl) (by rfl) ?_
  refine r_iconst (v := nI 1) dX9_require_9 (by decide) ?_
  refine r_iadd dX9_require_10 ?_
  refine pf_X9_98 rfl dX9_require_11 (by first | assumption | rfl) (by rfl) ?_
  exact r_throwI rfl dX9_require_14 dX9_require_17 dX9_require_18 dX9_require_21 (by decide) (Nat.le_of_ble_eq_true rfl) ⟨rfl, rfl⟩
set_option maxHeartbeats 8000000 in
set_option maxRecDepth 20000 in
theorem c_rS_t {n p : Nat} {x : XS} (hn : x 3 0 = nI n) (hn5 : n ≤ 5) (hp : p < n) : MM mX9_requireSleeper 1 0 0 [.ref 0, .int (nI p)] x (fun v x1 => v = none ∧ x1 = x) NoT := by
  refine MM.of (by decide) (Nat.le_of_ble_eq_true rfl) ?_
  have y0 := lay_0
  have y3 := lay_3
  refine r_iload_n dX9_requireSleeper_0 rfl (by rfl) ?_
  refine r_iconst (v := nI 0) dX9_requireSleeper_1 (by decide) ?_
  refine r_aload_n dX9_requireSleeper_2 rfl (by rfl) ?_
  refine gf_X9_19 rfl dX9_requireSleeper_3 (by first | assumption | rfl) (by rfl) ?_
  refine gf_X9_141 rfl dX9_requireSleeper_6 (by first | assumption | rfl) (by rfl) ?_
  refine PW.topi hn ?_
  refine r_iconst (v := nI 1) dX9_requireSleeper_9 (by decide) ?_
  refine r_isubN dX9_requireSleeper_10 (by omega) ?_
  refine r_callS (c_within_t (inB_N (Nat.zero_le _) (show p ≤ n - 1 by omega) (by omega))) ms_X9_within ml_X9_144 ⟨by decide, by decide⟩ dX9_requireSleeper_11 rfl (Nat.le_of_ble_eq_true rfl) (fun v9 x9 h9 => ?_)
  obtain ⟨rfl, h9⟩ := h9
  refine PW.xeq h9 ?_
  clear h9 x9
  refine r_if_neB (tgt := 35) dX9_requireSleeper_14 (by decide) (fun _ => ?_) (fun h => by cases h)
  refine r_ret rfl dX9_requireSleeper_35 ?_
  exact ⟨rfl, rfl⟩
/-- no sleeper of that number -/
def nobody (v : Int32) (n : Nat) : Bool := !inB v (nI 0) (nI n - nI 1)
theorem nobody_f {v : Int32} {n : Nat} (hn : n ≤ 5) (h : nobody v n = false) : ∃ p, p < n ∧ v = nI p := by
  unfold nobody at h
  have h2 : inB v (nI 0) (nI n - nI 1) = true := by cases q : inB v (nI 0) (nI n - nI 1) <;> simp_all
  cases n with
  | zero =>
    unfold inB at h2
    simp only [Bool.and_eq_true, decide_eq_true_eq] at h2
    exact absurd (Int32.le_trans h2.1 h2.2) (by decide +kernel)
  | succ m =>
    rw [show nI (m + 1) - nI 1 = nI m from nI_pred m] at h2
    obtain ⟨k, _, hk, e⟩ := inB_is h2 (by omega) (Nat.zero_le _)
    exact ⟨k, by omega, e⟩
set_option maxHeartbeats 8000000 in
set_option maxRecDepth 20000 in
theorem c_rS_f {n : Nat} {v : Int32} {x : XS} (hn : x 3 0 = nI n) (hb : nobody v n = true) : MM mX9_requireSleeper 6 1 6 [.ref 0, .int v] x (fun _ _ => False) (fun E x1 => E = thS ∧ x1 = nobX x) := by
  refine MM.of (by decide) (Nat.le_of_ble_eq_true rfl) ?_
  have y0 := lay_0
  have y3 := lay_3
  refine r_iload_n dX9_requireSleeper_0 rfl (by rfl) ?_
  refine r_iconst (v := nI 0) dX9_requireSleeper_1 (by decide) ?_
  refine r_aload_n dX9_requireSleeper_2 rfl (by rfl) ?_
  refine gf_X9_19 rfl dX9_requireSleeper_3 (by first | assumption | rfl) (by rfl) ?_
  refine gf_X9_141 rfl dX9_requireSleeper_6 (by first | assumption | rfl) (by rfl) ?_
  refine PW.topi hn ?_
  refine r_iconst (v := nI 1) dX9_requireSleeper_9 (by decide) ?_
  refine r_isub dX9_requireSleeper_10 ?_
  refine r_callS c_X9_within ms_X9_within ml_X9_144 ⟨by decide, by decide⟩ dX9_requireSleeper_11 rfl (Nat.le_of_ble_eq_true rfl) (fun v9 x9 h9 => ?_)
  obtain ⟨rfl, h9⟩ := h9
  refine PW.xeq h9 ?_
  clear h9 x9
  refine PW.topB (show _ = false by unfold nobody at hb; cases q : inB v (nI 0) (nI n - nI 1) <;> simp_all) ?_
  refine r_if_neB (tgt := 35) dX9_requireSleeper_14 (by decide) (fun h => by cases h) (fun _ => ?_)
  refine r_aload_n dX9_requireSleeper_17 rfl (by rfl) ?_
  refine r_dup dX9_requireSleeper_18 rfl ?_
  refine gf_X9_95 rfl dX9_requireSleeper_19 (by first | assumption | rfl) (by rfl) ?_
  refine r_iconst (v := nI 1) dX9_requireSleeper_22 (by decide) ?_
  refine r_iadd dX9_requireSleeper_23 ?_
  refine pf_X9_95 rfl dX9_requireSleeper_24 (by first | assumption | rfl) (by rfl) ?_
  exact r_throwS rfl dX9_requireSleeper_27 dX9_requireSleeper_30 dX9_requireSleeper_31 dX9_requireSleeper_34 (by decide) (Nat.le_of_ble_eq_true rfl) ⟨rfl, rfl⟩
