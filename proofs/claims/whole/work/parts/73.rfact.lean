/-! a string of the code, by the wide word -/
theorem wStr {p : Program} {l : Launch} {e : Env} {R : Room} {s : State} {m : MethodId} {args : Array Value} {below : List Frame} {meth : Method} {c : Code} {T : State} {locs : List Loc} {cells slots : Nat} (X : Stand p l e R s m args below meth c T locs cells slots) (hexec : p.tables.exec = Jvm.exec) {own text : String} {index : Nat} {a : Addr} (hown : s.vm.findClass own = some m.cls) (hconst : (Cond.stringRef own index text).before args s = true) (hev : (Term.string own index).eval args s none [] s = some (.ref a)) {g : JFrame} (hg : g.method = m) (hdg : decode c.code g.pc = .ok (.ldc_w index, 3)) : ∀ target, Steps p.tables e below (T.setTop { g with pc := g.pc + 3, stack := .ref a :: g.stack }) target → Steps p.tables e below (T.setTop g) target := by
  obtain ⟨k, cf, i, b, hk, hcf, hcp, -, hr, hb⟩ := Cond.stringRef_spec hown hconst
  cases hev.symm.trans hb
  obtain ⟨k2, hk2, he⟩ := X.warmed.alike.2.2 _ _ hk
  have hr2 : k2.resolved[index]? = some (some (.string a)) := by
    rcases X.warmed.entry hk hk2 index with h | ⟨h, -⟩
    · exact h.trans hr
    · exact absurd (hr.symm.trans h) (by simp)
  intro target hrest
  subst hg
  jvm_step X.here [hexec, hdg, ldc_w.wp_string (e := e) (s := T) (f := g) X.here.top hk2 (by rw [he]; exact hcf) hcp hr2]
  exact hrest
theorem r_ldcwS {M : MD} {d mc ms : Nat} {Post : Option Value → XS → Prop} {PT : String → XS → Prop} {pc : Nat} {L : List (Nat × Value)} {st : List Value} {x : XS} {idx i : Nat} {tx : String} (hs : strL[i]? = some (M.1.cls, idx, tx)) (hd : decode M.2.1 pc = .ok (.ldc_w idx, 3)) (k : PW M (RM d mc ms) mc ms Post PT (pc + 3) L (.ref (1000 + i) :: st) x) : PW M (RM d mc ms) mc ms Post PT pc L st x := by
  intro p l e s m args below meth c G H locs ls C hH hS hL
  have hZ := C.2.2.2.2.2.1.2.1 i _ hs
  intro T hT X
  obtain ⟨t, a1, b1⟩ := (k p l e s m args below meth c G H locs ls C hH hS hL) T hT X
  exact ⟨t, wStr X C.1 C.2.2.2.1 hZ.1 hZ.2 (g := F0 m pc ls _) rfl (by rw [C.2.1]; exact hd) t a1, b1⟩
/-! THE REFERENCE: a law's words -/
theorem of_lt (i : Nat) (hi : i < 25) (hi4 : 4 ≤ i) : ofW i < 2 ^ 30 := by
  obtain ⟨h6, h1, hs⟩ := str_sm i hi hi4
  exact Nat.lt_of_lt_of_le (hsN_lt _ hs) (Nat.le_trans (Nat.pow_le_pow_right (by decide) h6) (by decide))
theorem wd_lt (g : Nat → Nat) (len a : Nat) : wdN g len a < 2 ^ 30 := by
  unfold wdN
  split
  · rename_i h6
    exact Nat.lt_of_lt_of_le (hsN_lt _ (fun j hj => smE_sm (len := len) (a := skip g len a) (by omega) (by omega))) (Nat.le_trans (Nat.pow_le_pow_right (by decide) h6) (by decide))
  · decide
theorem n_word2 {x : XS} {g : Nat → Nat} {len a : Nat} (hS : RPs x g len a) : MM mX10_word 1 0 0 [.ref 137] (gdX x (skip g len a)) (fun v y => v = some (.int (nI (wdN g len a))) ∧ y = gdX x (skip g len a)) NoT := by
  refine MM.imp (n_word (hS.gd (skip_le hS.2.2.2.1))) (fun v y h => ?_)
  obtain ⟨rfl, rfl⟩ := h
  refine ⟨?_, ?_⟩
  · unfold wdN
    rw [skip_skip]
  · rw [skip_skip]
    exact xu_xu _ _ _ _ _
def fcI : Option Nat → Int32
  | some w => if w < 9 then nI w else -1
  | none => -1
set_option maxRecDepth 100000 in
theorem w1_snores (g : Nat → Nat) (len a : Nat) : (wdN g len a = ofW 13) ↔ isW g 1 (skip g len a) (smE g len (skip g len a)) 0 6 = true := wd_is (by decide) (by decide) (by decide +kernel) (by decide +kernel)
set_option maxRecDepth 100000 in
theorem w1_wine (g : Nat → Nat) (len a : Nat) : (wdN g len a = ofW 4) ↔ isW g 1 (skip g len a) (smE g len (skip g len a)) 7 11 = true := wd_is (by decide) (by decide) (by decide +kernel) (by decide +kernel)
set_option maxRecDepth 100000 in
theorem w1_cold (g : Nat → Nat) (len a : Nat) : (wdN g len a = ofW 5) ↔ isW g 1 (skip g len a) (smE g len (skip g len a)) 12 16 = true := wd_is (by decide) (by decide) (by decide +kernel) (by decide +kernel)
set_option maxRecDepth 100000 in
theorem w1_depth (g : Nat → Nat) (len a : Nat) : (wdN g len a = ofW 14) ↔ isW g 1 (skip g len a) (smE g len (skip g len a)) 17 22 = true := wd_is (by decide) (by decide) (by decide +kernel) (by decide +kernel)
set_option maxRecDepth 100000 in
theorem w1_tired (g : Nat → Nat) (len a : Nat) : (wdN g len a = ofW 15) ↔ isW g 1 (skip g len a) (smE g len (skip g len a)) 23 28 = true := wd_is (by decide) (by decide) (by decide +kernel) (by decide +kernel)
set_option maxRecDepth 100000 in
theorem w1_heard (g : Nat → Nat) (len a : Nat) : (wdN g len a = ofW 16) ↔ isW g 1 (skip g len a) (smE g len (skip g len a)) 29 34 = true := wd_is (by decide) (by decide) (by decide +kernel) (by decide +kernel)
set_option maxRecDepth 100000 in
theorem w1_light (g : Nat → Nat) (len a : Nat) : (wdN g len a = ofW 17) ↔ isW g 1 (skip g len a) (smE g len (skip g len a)) 35 40 = true := wd_is (by decide) (by decide) (by decide +kernel) (by decide +kernel)
set_option maxRecDepth 100000 in
theorem w1_minute (g : Nat → Nat) (len a : Nat) : (wdN g len a = ofW 18) ↔ isW g 1 (skip g len a) (smE g len (skip g len a)) 41 47 = true := wd_is (by decide) (by decide) (by decide +kernel) (by decide +kernel)
set_option maxRecDepth 100000 in
theorem w1_awake (g : Nat → Nat) (len a : Nat) : (wdN g len a = ofW 19) ↔ isW g 1 (skip g len a) (smE g len (skip g len a)) 48 53 = true := wd_is (by decide) (by decide) (by decide +kernel) (by decide +kernel)
set_option maxRecDepth 100000 in
theorem w1_least (g : Nat → Nat) (len a : Nat) : (wdN g len a = ofW 11) ↔ isW g 1 (skip g len a) (smE g len (skip g len a)) 54 59 = true := wd_is (by decide) (by decide) (by decide +kernel) (by decide +kernel)
set_option maxRecDepth 100000 in
theorem w1_most (g : Nat → Nat) (len a : Nat) : (wdN g len a = ofW 12) ↔ isW g 1 (skip g len a) (smE g len (skip g len a)) 60 64 = true := wd_is (by decide) (by decide) (by decide +kernel) (by decide +kernel)
set_option maxHeartbeats 8000000 in
set_option maxRecDepth 20000 in
theorem n_fact {g : Nat → Nat} {len a : Nat} {x : XS} (hS : RPs x g len a) : MM mX10_factHere 5 0 0 [.ref 137] (gdX x (skip g len a)) (fun v y => v = some (.int (fcI (wrd g len 1 a))) ∧ y = gdX x (skip g len a)) NoT := by
  refine MM.of (by decide) (Nat.le_of_ble_eq_true rfl) ?_
  have y137 := lay_137
  have hwd := wd_lt g len a
  have b13 := of_lt 13 (by decide) (by decide)
  have b4 := of_lt 4 (by decide) (by decide)
  have b5 := of_lt 5 (by decide) (by decide)
  have b14 := of_lt 14 (by decide) (by decide)
  have b15 := of_lt 15 (by decide) (by decide)
  have b16 := of_lt 16 (by decide) (by decide)
  have b17 := of_lt 17 (by decide) (by decide)
  have b18 := of_lt 18 (by decide) (by decide)
  have b19 := of_lt 19 (by decide) (by decide)
  refine r_aload_n dX10_factHere_0 rfl (by rfl) ?_
  refine r_callV (n_word2 hS) mv_X10_word ml_X10_219 ⟨by decide, by decide⟩ dX10_factHere_1 (by first | assumption | rfl) rfl rfl rfl (Nat.le_of_ble_eq_true rfl) (fun v9 x9 h9 => ?_)
  obtain ⟨rfl, h9⟩ := h9
  refine PW.xeq h9 ?_
  clear h9 x9
  refine r_istore_n dX10_factHere_4 rfl (by decide) ?_
  refine r_iload_n dX10_factHere_5 rfl (by rfl) ?_
  refine r_ldcwS (i := 13) rfl dX10_factHere_6 ?_
  refine r_callS (n_of (i := 13) (by decide) (by decide)) ms_X10_of ml_X10_187 ⟨by decide, by decide⟩ dX10_factHere_9 rfl (Nat.le_of_ble_eq_true rfl) (fun v9 x9 h9 => ?_)
  obtain ⟨rfl, h9⟩ := h9
  refine PW.xeq h9 ?_
  clear h9 x9
  refine r_icmp_neN (tgt := 19) dX10_factHere_12 (by decide) (by omega) (by omega) (fun h12 => ?_) (fun h12 => ?_)
  · refine r_iload_n dX10_factHere_19 rfl (by rfl) ?_
    refine r_ldcS (i := 4) rfl dX10_factHere_20 ?_
    refine r_callS (n_of (i := 4) (by decide) (by decide)) ms_X10_of ml_X10_187 ⟨by decide, by decide⟩ dX10_factHere_22 rfl (Nat.le_of_ble_eq_true rfl) (fun v9 x9 h9 => ?_)
    obtain ⟨rfl, h9⟩ := h9
    refine PW.xeq h9 ?_
    clear h9 x9
    refine r_icmp_neN (tgt := 32) dX10_factHere_25 (by decide) (by omega) (by omega) (fun h25 => ?_) (fun h25 => ?_)
    · refine r_iload_n dX10_factHere_32 rfl (by rfl) ?_
      refine r_ldcS (i := 5) rfl dX10_factHere_33 ?_
      refine r_callS (n_of (i := 5) (by decide) (by decide)) ms_X10_of ml_X10_187 ⟨by decide, by decide⟩ dX10_factHere_35 rfl (Nat.le_of_ble_eq_true rfl) (fun v9 x9 h9 => ?_)
      obtain ⟨rfl, h9⟩ := h9
      refine PW.xeq h9 ?_
      clear h9 x9
      refine r_icmp_neN (tgt := 45) dX10_factHere_38 (by decide) (by omega) (by omega) (fun h38 => ?_) (fun h38 => ?_)
      · refine r_iload_n dX10_factHere_45 rfl (by rfl) ?_
        refine r_ldcwS (i := 14) rfl dX10_factHere_46 ?_
        refine r_callS (n_of (i := 14) (by decide) (by decide)) ms_X10_of ml_X10_187 ⟨by decide, by decide⟩ dX10_factHere_49 rfl (Nat.le_of_ble_eq_true rfl) (fun v9 x9 h9 => ?_)
        obtain ⟨rfl, h9⟩ := h9
        refine PW.xeq h9 ?_
        clear h9 x9
        refine r_icmp_neN (tgt := 59) dX10_factHere_52 (by decide) (by omega) (by omega) (fun h52 => ?_) (fun h52 => ?_)
        · refine r_iload_n dX10_factHere_59 rfl (by rfl) ?_
          refine r_ldcwS (i := 15) rfl dX10_factHere_60 ?_
          refine r_callS (n_of (i := 15) (by decide) (by decide)) ms_X10_of ml_X10_187 ⟨by decide, by decide⟩ dX10_factHere_63 rfl (Nat.le_of_ble_eq_true rfl) (fun v9 x9 h9 => ?_)
          obtain ⟨rfl, h9⟩ := h9
          refine PW.xeq h9 ?_
          clear h9 x9
          refine r_icmp_neN (tgt := 73) dX10_factHere_66 (by decide) (by omega) (by omega) (fun h66 => ?_) (fun h66 => ?_)
          · refine r_iload_n dX10_factHere_73 rfl (by rfl) ?_
            refine r_ldcwS (i := 16) rfl dX10_factHere_74 ?_
            refine r_callS (n_of (i := 16) (by decide) (by decide)) ms_X10_of ml_X10_187 ⟨by decide, by decide⟩ dX10_factHere_77 rfl (Nat.le_of_ble_eq_true rfl) (fun v9 x9 h9 => ?_)
            obtain ⟨rfl, h9⟩ := h9
            refine PW.xeq h9 ?_
            clear h9 x9
            refine r_icmp_neN (tgt := 87) dX10_factHere_80 (by decide) (by omega) (by omega) (fun h80 => ?_) (fun h80 => ?_)
            · refine r_iload_n dX10_factHere_87 rfl (by rfl) ?_
              refine r_ldcwS (i := 17) rfl dX10_factHere_88 ?_
              refine r_callS (n_of (i := 17) (by decide) (by decide)) ms_X10_of ml_X10_187 ⟨by decide, by decide⟩ dX10_factHere_91 rfl (Nat.le_of_ble_eq_true rfl) (fun v9 x9 h9 => ?_)
              obtain ⟨rfl, h9⟩ := h9
              refine PW.xeq h9 ?_
              clear h9 x9
              refine r_icmp_neN (tgt := 102) dX10_factHere_94 (by decide) (by omega) (by omega) (fun h94 => ?_) (fun h94 => ?_)
              · refine r_iload_n dX10_factHere_102 rfl (by rfl) ?_
                refine r_ldcwS (i := 18) rfl dX10_factHere_103 ?_
                refine r_callS (n_of (i := 18) (by decide) (by decide)) ms_X10_of ml_X10_187 ⟨by decide, by decide⟩ dX10_factHere_106 rfl (Nat.le_of_ble_eq_true rfl) (fun v9 x9 h9 => ?_)
                obtain ⟨rfl, h9⟩ := h9
                refine PW.xeq h9 ?_
                clear h9 x9
                refine r_icmp_neN (tgt := 117) dX10_factHere_109 (by decide) (by omega) (by omega) (fun h109 => ?_) (fun h109 => ?_)
                · refine r_iload_n dX10_factHere_117 rfl (by rfl) ?_
                  refine r_ldcwS (i := 19) rfl dX10_factHere_118 ?_
                  refine r_callS (n_of (i := 19) (by decide) (by decide)) ms_X10_of ml_X10_187 ⟨by decide, by decide⟩ dX10_factHere_121 rfl (Nat.le_of_ble_eq_true rfl) (fun v9 x9 h9 => ?_)
                  obtain ⟨rfl, h9⟩ := h9
                  refine PW.xeq h9 ?_
                  clear h9 x9
                  refine r_icmp_neN (tgt := 132) dX10_factHere_124 (by decide) (by omega) (by omega) (fun h124 => ?_) (fun h124 => ?_)
                  · refine r_iconst (v := -1) dX10_factHere_132 (by decide) ?_
                    refine r_iret rfl dX10_factHere_133 ?_
                    refine ⟨?_, rfl⟩
                    unfold wrd
                    rw [wkey1]
                    first
                      | (rw [if_neg (fun q => h12 ((w1_snores g len a).mpr q)), if_neg (fun q => h25 ((w1_wine g len a).mpr q)), if_neg (fun q => h38 ((w1_cold g len a).mpr q)), if_neg (fun q => h52 ((w1_depth g len a).mpr q)), if_neg (fun q => h66 ((w1_tired g len a).mpr q)), if_neg (fun q => h80 ((w1_heard g len a).mpr q)), if_neg (fun q => h94 ((w1_light g len a).mpr q)), if_neg (fun q => h109 ((w1_minute g len a).mpr q)), if_neg (fun q => h124 ((w1_awake g len a).mpr q))]; split; · rfl
                         · split <;> rfl)
                      | (rw [if_neg (fun q => h12 ((w1_snores g len a).mpr q)), if_neg (fun q => h25 ((w1_wine g len a).mpr q)), if_neg (fun q => h38 ((w1_cold g len a).mpr q)), if_neg (fun q => h52 ((w1_depth g len a).mpr q)), if_neg (fun q => h66 ((w1_tired g len a).mpr q)), if_neg (fun q => h80 ((w1_heard g len a).mpr q)), if_neg (fun q => h94 ((w1_light g len a).mpr q)), if_neg (fun q => h109 ((w1_minute g len a).mpr q)), if_pos ((w1_awake g len a).mp h124)]; rfl)
                      | (rw [if_neg (fun q => h12 ((w1_snores g len a).mpr q)), if_neg (fun q => h25 ((w1_wine g len a).mpr q)), if_neg (fun q => h38 ((w1_cold g len a).mpr q)), if_neg (fun q => h52 ((w1_depth g len a).mpr q)), if_neg (fun q => h66 ((w1_tired g len a).mpr q)), if_neg (fun q => h80 ((w1_heard g len a).mpr q)), if_neg (fun q => h94 ((w1_light g len a).mpr q)), if_pos ((w1_minute g len a).mp h109)]; rfl)
                      | (rw [if_neg (fun q => h12 ((w1_snores g len a).mpr q)), if_neg (fun q => h25 ((w1_wine g len a).mpr q)), if_neg (fun q => h38 ((w1_cold g len a).mpr q)), if_neg (fun q => h52 ((w1_depth g len a).mpr q)), if_neg (fun q => h66 ((w1_tired g len a).mpr q)), if_neg (fun q => h80 ((w1_heard g len a).mpr q)), if_pos ((w1_light g len a).mp h94)]; rfl)
                      | (rw [if_neg (fun q => h12 ((w1_snores g len a).mpr q)), if_neg (fun q => h25 ((w1_wine g len a).mpr q)), if_neg (fun q => h38 ((w1_cold g len a).mpr q)), if_neg (fun q => h52 ((w1_depth g len a).mpr q)), if_neg (fun q => h66 ((w1_tired g len a).mpr q)), if_pos ((w1_heard g len a).mp h80)]; rfl)
                      | (rw [if_neg (fun q => h12 ((w1_snores g len a).mpr q)), if_neg (fun q => h25 ((w1_wine g len a).mpr q)), if_neg (fun q => h38 ((w1_cold g len a).mpr q)), if_neg (fun q => h52 ((w1_depth g len a).mpr q)), if_pos ((w1_tired g len a).mp h66)]; rfl)
                      | (rw [if_neg (fun q => h12 ((w1_snores g len a).mpr q)), if_neg (fun q => h25 ((w1_wine g len a).mpr q)), if_neg (fun q => h38 ((w1_cold g len a).mpr q)), if_pos ((w1_depth g len a).mp h52)]; rfl)
                      | (rw [if_neg (fun q => h12 ((w1_snores g len a).mpr q)), if_neg (fun q => h25 ((w1_wine g len a).mpr q)), if_pos ((w1_cold g len a).mp h38)]; rfl)
                      | (rw [if_neg (fun q => h12 ((w1_snores g len a).mpr q)), if_pos ((w1_wine g len a).mp h25)]; rfl)
                      | (rw [if_pos ((w1_snores g len a).mp h12)]; rfl)
                  · refine r_bipush (v := nI 8) dX10_factHere_127 (by decide) ?_
                    refine r_goto (tgt := 133) dX10_factHere_129 (by decide) ?_
                    refine r_iret rfl dX10_factHere_133 ?_
                    refine ⟨?_, rfl⟩
                    unfold wrd
                    rw [wkey1]
                    first
                      | (rw [if_neg (fun q => h12 ((w1_snores g len a).mpr q)), if_neg (fun q => h25 ((w1_wine g len a).mpr q)), if_neg (fun q => h38 ((w1_cold g len a).mpr q)), if_neg (fun q => h52 ((w1_depth g len a).mpr q)), if_neg (fun q => h66 ((w1_tired g len a).mpr q)), if_neg (fun q => h80 ((w1_heard g len a).mpr q)), if_neg (fun q => h94 ((w1_light g len a).mpr q)), if_neg (fun q => h109 ((w1_minute g len a).mpr q)), if_neg (fun q => h124 ((w1_awake g len a).mpr q))]; split; · rfl
                         · split <;> rfl)
                      | (rw [if_neg (fun q => h12 ((w1_snores g len a).mpr q)), if_neg (fun q => h25 ((w1_wine g len a).mpr q)), if_neg (fun q => h38 ((w1_cold g len a).mpr q)), if_neg (fun q => h52 ((w1_depth g len a).mpr q)), if_neg (fun q => h66 ((w1_tired g len a).mpr q)), if_neg (fun q => h80 ((w1_heard g len a).mpr q)), if_neg (fun q => h94 ((w1_light g len a).mpr q)), if_neg (fun q => h109 ((w1_minute g len a).mpr q)), if_pos ((w1_awake g len a).mp h124)]; rfl)
                      | (rw [if_neg (fun q => h12 ((w1_snores g len a).mpr q)), if_neg (fun q => h25 ((w1_wine g len a).mpr q)), if_neg (fun q => h38 ((w1_cold g len a).mpr q)), if_neg (fun q => h52 ((w1_depth g len a).mpr q)), if_neg (fun q => h66 ((w1_tired g len a).mpr q)), if_neg (fun q => h80 ((w1_heard g len a).mpr q)), if_neg (fun q => h94 ((w1_light g len a).mpr q)), if_pos ((w1_minute g len a).mp h109)]; rfl)
                      | (rw [if_neg (fun q => h12 ((w1_snores g len a).mpr q)), if_neg (fun q => h25 ((w1_wine g len a).mpr q)), if_neg (fun q => h38 ((w1_cold g len a).mpr q)), if_neg (fun q => h52 ((w1_depth g len a).mpr q)), if_neg (fun q => h66 ((w1_tired g len a).mpr q)), if_neg (fun q => h80 ((w1_heard g len a).mpr q)), if_pos ((w1_light g len a).mp h94)]; rfl)
                      | (rw [if_neg (fun q => h12 ((w1_snores g len a).mpr q)), if_neg (fun q => h25 ((w1_wine g len a).mpr q)), if_neg (fun q => h38 ((w1_cold g len a).mpr q)), if_neg (fun q => h52 ((w1_depth g len a).mpr q)), if_neg (fun q => h66 ((w1_tired g len a).mpr q)), if_pos ((w1_heard g len a).mp h80)]; rfl)
                      | (rw [if_neg (fun q => h12 ((w1_snores g len a).mpr q)), if_neg (fun q => h25 ((w1_wine g len a).mpr q)), if_neg (fun q => h38 ((w1_cold g len a).mpr q)), if_neg (fun q => h52 ((w1_depth g len a).mpr q)), if_pos ((w1_tired g len a).mp h66)]; rfl)
                      | (rw [if_neg (fun q => h12 ((w1_snores g len a).mpr q)), if_neg (fun q => h25 ((w1_wine g len a).mpr q)), if_neg (fun q => h38 ((w1_cold g len a).mpr q)), if_pos ((w1_depth g len a).mp h52)]; rfl)
                      | (rw [if_neg (fun q => h12 ((w1_snores g len a).mpr q)), if_neg (fun q => h25 ((w1_wine g len a).mpr q)), if_pos ((w1_cold g len a).mp h38)]; rfl)
                      | (rw [if_neg (fun q => h12 ((w1_snores g len a).mpr q)), if_pos ((w1_wine g len a).mp h25)]; rfl)
                      | (rw [if_pos ((w1_snores g len a).mp h12)]; rfl)
                · refine r_bipush (v := nI 7) dX10_factHere_112 (by decide) ?_
                  refine r_goto (tgt := 133) dX10_factHere_114 (by decide) ?_
                  refine r_iret rfl dX10_factHere_133 ?_
                  refine ⟨?_, rfl⟩
                  unfold wrd
                  rw [wkey1]
                  first
                    | (rw [if_neg (fun q => h12 ((w1_snores g len a).mpr q)), if_neg (fun q => h25 ((w1_wine g len a).mpr q)), if_neg (fun q => h38 ((w1_cold g len a).mpr q)), if_neg (fun q => h52 ((w1_depth g len a).mpr q)), if_neg (fun q => h66 ((w1_tired g len a).mpr q)), if_neg (fun q => h80 ((w1_heard g len a).mpr q)), if_neg (fun q => h94 ((w1_light g len a).mpr q)), if_neg (fun q => h109 ((w1_minute g len a).mpr q)), if_neg (fun q => h124 ((w1_awake g len a).mpr q))]; split; · rfl
                       · split <;> rfl)
                    | (rw [if_neg (fun q => h12 ((w1_snores g len a).mpr q)), if_neg (fun q => h25 ((w1_wine g len a).mpr q)), if_neg (fun q => h38 ((w1_cold g len a).mpr q)), if_neg (fun q => h52 ((w1_depth g len a).mpr q)), if_neg (fun q => h66 ((w1_tired g len a).mpr q)), if_neg (fun q => h80 ((w1_heard g len a).mpr q)), if_neg (fun q => h94 ((w1_light g len a).mpr q)), if_neg (fun q => h109 ((w1_minute g len a).mpr q)), if_pos ((w1_awake g len a).mp h124)]; rfl)
                    | (rw [if_neg (fun q => h12 ((w1_snores g len a).mpr q)), if_neg (fun q => h25 ((w1_wine g len a).mpr q)), if_neg (fun q => h38 ((w1_cold g len a).mpr q)), if_neg (fun q => h52 ((w1_depth g len a).mpr q)), if_neg (fun q => h66 ((w1_tired g len a).mpr q)), if_neg (fun q => h80 ((w1_heard g len a).mpr q)), if_neg (fun q => h94 ((w1_light g len a).mpr q)), if_pos ((w1_minute g len a).mp h109)]; rfl)
                    | (rw [if_neg (fun q => h12 ((w1_snores g len a).mpr q)), if_neg (fun q => h25 ((w1_wine g len a).mpr q)), if_neg (fun q => h38 ((w1_cold g len a).mpr q)), if_neg (fun q => h52 ((w1_depth g len a).mpr q)), if_neg (fun q => h66 ((w1_tired g len a).mpr q)), if_neg (fun q => h80 ((w1_heard g len a).mpr q)), if_pos ((w1_light g len a).mp h94)]; rfl)
                    | (rw [if_neg (fun q => h12 ((w1_snores g len a).mpr q)), if_neg (fun q => h25 ((w1_wine g len a).mpr q)), if_neg (fun q => h38 ((w1_cold g len a).mpr q)), if_neg (fun q => h52 ((w1_depth g len a).mpr q)), if_neg (fun q => h66 ((w1_tired g len a).mpr q)), if_pos ((w1_heard g len a).mp h80)]; rfl)
                    | (rw [if_neg (fun q => h12 ((w1_snores g len a).mpr q)), if_neg (fun q => h25 ((w1_wine g len a).mpr q)), if_neg (fun q => h38 ((w1_cold g len a).mpr q)), if_neg (fun q => h52 ((w1_depth g len a).mpr q)), if_pos ((w1_tired g len a).mp h66)]; rfl)
                    | (rw [if_neg (fun q => h12 ((w1_snores g len a).mpr q)), if_neg (fun q => h25 ((w1_wine g len a).mpr q)), if_neg (fun q => h38 ((w1_cold g len a).mpr q)), if_pos ((w1_depth g len a).mp h52)]; rfl)
                    | (rw [if_neg (fun q => h12 ((w1_snores g len a).mpr q)), if_neg (fun q => h25 ((w1_wine g len a).mpr q)), if_pos ((w1_cold g len a).mp h38)]; rfl)
                    | (rw [if_neg (fun q => h12 ((w1_snores g len a).mpr q)), if_pos ((w1_wine g len a).mp h25)]; rfl)
                    | (rw [if_pos ((w1_snores g len a).mp h12)]; rfl)
              · refine r_bipush (v := nI 6) dX10_factHere_97 (by decide) ?_
                refine r_goto (tgt := 133) dX10_factHere_99 (by decide) ?_
                refine r_iret rfl dX10_factHere_133 ?_
                refine ⟨?_, rfl⟩
                unfold wrd
                rw [wkey1]
                first
                  | (rw [if_neg (fun q => h12 ((w1_snores g len a).mpr q)), if_neg (fun q => h25 ((w1_wine g len a).mpr q)), if_neg (fun q => h38 ((w1_cold g len a).mpr q)), if_neg (fun q => h52 ((w1_depth g len a).mpr q)), if_neg (fun q => h66 ((w1_tired g len a).mpr q)), if_neg (fun q => h80 ((w1_heard g len a).mpr q)), if_neg (fun q => h94 ((w1_light g len a).mpr q)), if_neg (fun q => h109 ((w1_minute g len a).mpr q)), if_neg (fun q => h124 ((w1_awake g len a).mpr q))]; split; · rfl
                     · split <;> rfl)
                  | (rw [if_neg (fun q => h12 ((w1_snores g len a).mpr q)), if_neg (fun q => h25 ((w1_wine g len a).mpr q)), if_neg (fun q => h38 ((w1_cold g len a).mpr q)), if_neg (fun q => h52 ((w1_depth g len a).mpr q)), if_neg (fun q => h66 ((w1_tired g len a).mpr q)), if_neg (fun q => h80 ((w1_heard g len a).mpr q)), if_neg (fun q => h94 ((w1_light g len a).mpr q)), if_neg (fun q => h109 ((w1_minute g len a).mpr q)), if_pos ((w1_awake g len a).mp h124)]; rfl)
                  | (rw [if_neg (fun q => h12 ((w1_snores g len a).mpr q)), if_neg (fun q => h25 ((w1_wine g len a).mpr q)), if_neg (fun q => h38 ((w1_cold g len a).mpr q)), if_neg (fun q => h52 ((w1_depth g len a).mpr q)), if_neg (fun q => h66 ((w1_tired g len a).mpr q)), if_neg (fun q => h80 ((w1_heard g len a).mpr q)), if_neg (fun q => h94 ((w1_light g len a).mpr q)), if_pos ((w1_minute g len a).mp h109)]; rfl)
                  | (rw [if_neg (fun q => h12 ((w1_snores g len a).mpr q)), if_neg (fun q => h25 ((w1_wine g len a).mpr q)), if_neg (fun q => h38 ((w1_cold g len a).mpr q)), if_neg (fun q => h52 ((w1_depth g len a).mpr q)), if_neg (fun q => h66 ((w1_tired g len a).mpr q)), if_neg (fun q => h80 ((w1_heard g len a).mpr q)), if_pos ((w1_light g len a).mp h94)]; rfl)
                  | (rw [if_neg (fun q => h12 ((w1_snores g len a).mpr q)), if_neg (fun q => h25 ((w1_wine g len a).mpr q)), if_neg (fun q => h38 ((w1_cold g len a).mpr q)), if_neg (fun q => h52 ((w1_depth g len a).mpr q)), if_neg (fun q => h66 ((w1_tired g len a).mpr q)), if_pos ((w1_heard g len a).mp h80)]; rfl)
                  | (rw [if_neg (fun q => h12 ((w1_snores g len a).mpr q)), if_neg (fun q => h25 ((w1_wine g len a).mpr q)), if_neg (fun q => h38 ((w1_cold g len a).mpr q)), if_neg (fun q => h52 ((w1_depth g len a).mpr q)), if_pos ((w1_tired g len a).mp h66)]; rfl)
                  | (rw [if_neg (fun q => h12 ((w1_snores g len a).mpr q)), if_neg (fun q => h25 ((w1_wine g len a).mpr q)), if_neg (fun q => h38 ((w1_cold g len a).mpr q)), if_pos ((w1_depth g len a).mp h52)]; rfl)
                  | (rw [if_neg (fun q => h12 ((w1_snores g len a).mpr q)), if_neg (fun q => h25 ((w1_wine g len a).mpr q)), if_pos ((w1_cold g len a).mp h38)]; rfl)
                  | (rw [if_neg (fun q => h12 ((w1_snores g len a).mpr q)), if_pos ((w1_wine g len a).mp h25)]; rfl)
                  | (rw [if_pos ((w1_snores g len a).mp h12)]; rfl)
            · refine r_iconst (v := nI 5) dX10_factHere_83 (by decide) ?_
              refine r_goto (tgt := 133) dX10_factHere_84 (by decide) ?_
              refine r_iret rfl dX10_factHere_133 ?_
              refine ⟨?_, rfl⟩
              unfold wrd
              rw [wkey1]
              first
                | (rw [if_neg (fun q => h12 ((w1_snores g len a).mpr q)), if_neg (fun q => h25 ((w1_wine g len a).mpr q)), if_neg (fun q => h38 ((w1_cold g len a).mpr q)), if_neg (fun q => h52 ((w1_depth g len a).mpr q)), if_neg (fun q => h66 ((w1_tired g len a).mpr q)), if_neg (fun q => h80 ((w1_heard g len a).mpr q)), if_neg (fun q => h94 ((w1_light g len a).mpr q)), if_neg (fun q => h109 ((w1_minute g len a).mpr q)), if_neg (fun q => h124 ((w1_awake g len a).mpr q))]; split; · rfl
                   · split <;> rfl)
                | (rw [if_neg (fun q => h12 ((w1_snores g len a).mpr q)), if_neg (fun q => h25 ((w1_wine g len a).mpr q)), if_neg (fun q => h38 ((w1_cold g len a).mpr q)), if_neg (fun q => h52 ((w1_depth g len a).mpr q)), if_neg (fun q => h66 ((w1_tired g len a).mpr q)), if_neg (fun q => h80 ((w1_heard g len a).mpr q)), if_neg (fun q => h94 ((w1_light g len a).mpr q)), if_neg (fun q => h109 ((w1_minute g len a).mpr q)), if_pos ((w1_awake g len a).mp h124)]; rfl)
                | (rw [if_neg (fun q => h12 ((w1_snores g len a).mpr q)), if_neg (fun q => h25 ((w1_wine g len a).mpr q)), if_neg (fun q => h38 ((w1_cold g len a).mpr q)), if_neg (fun q => h52 ((w1_depth g len a).mpr q)), if_neg (fun q => h66 ((w1_tired g len a).mpr q)), if_neg (fun q => h80 ((w1_heard g len a).mpr q)), if_neg (fun q => h94 ((w1_light g len a).mpr q)), if_pos ((w1_minute g len a).mp h109)]; rfl)
                | (rw [if_neg (fun q => h12 ((w1_snores g len a).mpr q)), if_neg (fun q => h25 ((w1_wine g len a).mpr q)), if_neg (fun q => h38 ((w1_cold g len a).mpr q)), if_neg (fun q => h52 ((w1_depth g len a).mpr q)), if_neg (fun q => h66 ((w1_tired g len a).mpr q)), if_neg (fun q => h80 ((w1_heard g len a).mpr q)), if_pos ((w1_light g len a).mp h94)]; rfl)
                | (rw [if_neg (fun q => h12 ((w1_snores g len a).mpr q)), if_neg (fun q => h25 ((w1_wine g len a).mpr q)), if_neg (fun q => h38 ((w1_cold g len a).mpr q)), if_neg (fun q => h52 ((w1_depth g len a).mpr q)), if_neg (fun q => h66 ((w1_tired g len a).mpr q)), if_pos ((w1_heard g len a).mp h80)]; rfl)
                | (rw [if_neg (fun q => h12 ((w1_snores g len a).mpr q)), if_neg (fun q => h25 ((w1_wine g len a).mpr q)), if_neg (fun q => h38 ((w1_cold g len a).mpr q)), if_neg (fun q => h52 ((w1_depth g len a).mpr q)), if_pos ((w1_tired g len a).mp h66)]; rfl)
                | (rw [if_neg (fun q => h12 ((w1_snores g len a).mpr q)), if_neg (fun q => h25 ((w1_wine g len a).mpr q)), if_neg (fun q => h38 ((w1_cold g len a).mpr q)), if_pos ((w1_depth g len a).mp h52)]; rfl)
                | (rw [if_neg (fun q => h12 ((w1_snores g len a).mpr q)), if_neg (fun q => h25 ((w1_wine g len a).mpr q)), if_pos ((w1_cold g len a).mp h38)]; rfl)
                | (rw [if_neg (fun q => h12 ((w1_snores g len a).mpr q)), if_pos ((w1_wine g len a).mp h25)]; rfl)
                | (rw [if_pos ((w1_snores g len a).mp h12)]; rfl)
          · refine r_iconst (v := nI 4) dX10_factHere_69 (by decide) ?_
            refine r_goto (tgt := 133) dX10_factHere_70 (by decide) ?_
            refine r_iret rfl dX10_factHere_133 ?_
            refine ⟨?_, rfl⟩
            unfold wrd
            rw [wkey1]
            first
              | (rw [if_neg (fun q => h12 ((w1_snores g len a).mpr q)), if_neg (fun q => h25 ((w1_wine g len a).mpr q)), if_neg (fun q => h38 ((w1_cold g len a).mpr q)), if_neg (fun q => h52 ((w1_depth g len a).mpr q)), if_neg (fun q => h66 ((w1_tired g len a).mpr q)), if_neg (fun q => h80 ((w1_heard g len a).mpr q)), if_neg (fun q => h94 ((w1_light g len a).mpr q)), if_neg (fun q => h109 ((w1_minute g len a).mpr q)), if_neg (fun q => h124 ((w1_awake g len a).mpr q))]; split; · rfl
                 · split <;> rfl)
              | (rw [if_neg (fun q => h12 ((w1_snores g len a).mpr q)), if_neg (fun q => h25 ((w1_wine g len a).mpr q)), if_neg (fun q => h38 ((w1_cold g len a).mpr q)), if_neg (fun q => h52 ((w1_depth g len a).mpr q)), if_neg (fun q => h66 ((w1_tired g len a).mpr q)), if_neg (fun q => h80 ((w1_heard g len a).mpr q)), if_neg (fun q => h94 ((w1_light g len a).mpr q)), if_neg (fun q => h109 ((w1_minute g len a).mpr q)), if_pos ((w1_awake g len a).mp h124)]; rfl)
              | (rw [if_neg (fun q => h12 ((w1_snores g len a).mpr q)), if_neg (fun q => h25 ((w1_wine g len a).mpr q)), if_neg (fun q => h38 ((w1_cold g len a).mpr q)), if_neg (fun q => h52 ((w1_depth g len a).mpr q)), if_neg (fun q => h66 ((w1_tired g len a).mpr q)), if_neg (fun q => h80 ((w1_heard g len a).mpr q)), if_neg (fun q => h94 ((w1_light g len a).mpr q)), if_pos ((w1_minute g len a).mp h109)]; rfl)
              | (rw [if_neg (fun q => h12 ((w1_snores g len a).mpr q)), if_neg (fun q => h25 ((w1_wine g len a).mpr q)), if_neg (fun q => h38 ((w1_cold g len a).mpr q)), if_neg (fun q => h52 ((w1_depth g len a).mpr q)), if_neg (fun q => h66 ((w1_tired g len a).mpr q)), if_neg (fun q => h80 ((w1_heard g len a).mpr q)), if_pos ((w1_light g len a).mp h94)]; rfl)
              | (rw [if_neg (fun q => h12 ((w1_snores g len a).mpr q)), if_neg (fun q => h25 ((w1_wine g len a).mpr q)), if_neg (fun q => h38 ((w1_cold g len a).mpr q)), if_neg (fun q => h52 ((w1_depth g len a).mpr q)), if_neg (fun q => h66 ((w1_tired g len a).mpr q)), if_pos ((w1_heard g len a).mp h80)]; rfl)
              | (rw [if_neg (fun q => h12 ((w1_snores g len a).mpr q)), if_neg (fun q => h25 ((w1_wine g len a).mpr q)), if_neg (fun q => h38 ((w1_cold g len a).mpr q)), if_neg (fun q => h52 ((w1_depth g len a).mpr q)), if_pos ((w1_tired g len a).mp h66)]; rfl)
              | (rw [if_neg (fun q => h12 ((w1_snores g len a).mpr q)), if_neg (fun q => h25 ((w1_wine g len a).mpr q)), if_neg (fun q => h38 ((w1_cold g len a).mpr q)), if_pos ((w1_depth g len a).mp h52)]; rfl)
              | (rw [if_neg (fun q => h12 ((w1_snores g len a).mpr q)), if_neg (fun q => h25 ((w1_wine g len a).mpr q)), if_pos ((w1_cold g len a).mp h38)]; rfl)
              | (rw [if_neg (fun q => h12 ((w1_snores g len a).mpr q)), if_pos ((w1_wine g len a).mp h25)]; rfl)
              | (rw [if_pos ((w1_snores g len a).mp h12)]; rfl)
        · refine r_iconst (v := nI 3) dX10_factHere_55 (by decide) ?_
          refine r_goto (tgt := 133) dX10_factHere_56 (by decide) ?_
          refine r_iret rfl dX10_factHere_133 ?_
          refine ⟨?_, rfl⟩
          unfold wrd
          rw [wkey1]
          first
            | (rw [if_neg (fun q => h12 ((w1_snores g len a).mpr q)), if_neg (fun q => h25 ((w1_wine g len a).mpr q)), if_neg (fun q => h38 ((w1_cold g len a).mpr q)), if_neg (fun q => h52 ((w1_depth g len a).mpr q)), if_neg (fun q => h66 ((w1_tired g len a).mpr q)), if_neg (fun q => h80 ((w1_heard g len a).mpr q)), if_neg (fun q => h94 ((w1_light g len a).mpr q)), if_neg (fun q => h109 ((w1_minute g len a).mpr q)), if_neg (fun q => h124 ((w1_awake g len a).mpr q))]; split; · rfl
               · split <;> rfl)
            | (rw [if_neg (fun q => h12 ((w1_snores g len a).mpr q)), if_neg (fun q => h25 ((w1_wine g len a).mpr q)), if_neg (fun q => h38 ((w1_cold g len a).mpr q)), if_neg (fun q => h52 ((w1_depth g len a).mpr q)), if_neg (fun q => h66 ((w1_tired g len a).mpr q)), if_neg (fun q => h80 ((w1_heard g len a).mpr q)), if_neg (fun q => h94 ((w1_light g len a).mpr q)), if_neg (fun q => h109 ((w1_minute g len a).mpr q)), if_pos ((w1_awake g len a).mp h124)]; rfl)
            | (rw [if_neg (fun q => h12 ((w1_snores g len a).mpr q)), if_neg (fun q => h25 ((w1_wine g len a).mpr q)), if_neg (fun q => h38 ((w1_cold g len a).mpr q)), if_neg (fun q => h52 ((w1_depth g len a).mpr q)), if_neg (fun q => h66 ((w1_tired g len a).mpr q)), if_neg (fun q => h80 ((w1_heard g len a).mpr q)), if_neg (fun q => h94 ((w1_light g len a).mpr q)), if_pos ((w1_minute g len a).mp h109)]; rfl)
            | (rw [if_neg (fun q => h12 ((w1_snores g len a).mpr q)), if_neg (fun q => h25 ((w1_wine g len a).mpr q)), if_neg (fun q => h38 ((w1_cold g len a).mpr q)), if_neg (fun q => h52 ((w1_depth g len a).mpr q)), if_neg (fun q => h66 ((w1_tired g len a).mpr q)), if_neg (fun q => h80 ((w1_heard g len a).mpr q)), if_pos ((w1_light g len a).mp h94)]; rfl)
            | (rw [if_neg (fun q => h12 ((w1_snores g len a).mpr q)), if_neg (fun q => h25 ((w1_wine g len a).mpr q)), if_neg (fun q => h38 ((w1_cold g len a).mpr q)), if_neg (fun q => h52 ((w1_depth g len a).mpr q)), if_neg (fun q => h66 ((w1_tired g len a).mpr q)), if_pos ((w1_heard g len a).mp h80)]; rfl)
            | (rw [if_neg (fun q => h12 ((w1_snores g len a).mpr q)), if_neg (fun q => h25 ((w1_wine g len a).mpr q)), if_neg (fun q => h38 ((w1_cold g len a).mpr q)), if_neg (fun q => h52 ((w1_depth g len a).mpr q)), if_pos ((w1_tired g len a).mp h66)]; rfl)
            | (rw [if_neg (fun q => h12 ((w1_snores g len a).mpr q)), if_neg (fun q => h25 ((w1_wine g len a).mpr q)), if_neg (fun q => h38 ((w1_cold g len a).mpr q)), if_pos ((w1_depth g len a).mp h52)]; rfl)
            | (rw [if_neg (fun q => h12 ((w1_snores g len a).mpr q)), if_neg (fun q => h25 ((w1_wine g len a).mpr q)), if_pos ((w1_cold g len a).mp h38)]; rfl)
            | (rw [if_neg (fun q => h12 ((w1_snores g len a).mpr q)), if_pos ((w1_wine g len a).mp h25)]; rfl)
            | (rw [if_pos ((w1_snores g len a).mp h12)]; rfl)
      · refine r_iconst (v := nI 2) dX10_factHere_41 (by decide) ?_
        refine r_goto (tgt := 133) dX10_factHere_42 (by decide) ?_
        refine r_iret rfl dX10_factHere_133 ?_
        refine ⟨?_, rfl⟩
        unfold wrd
        rw [wkey1]
        first
          | (rw [if_neg (fun q => h12 ((w1_snores g len a).mpr q)), if_neg (fun q => h25 ((w1_wine g len a).mpr q)), if_neg (fun q => h38 ((w1_cold g len a).mpr q)), if_neg (fun q => h52 ((w1_depth g len a).mpr q)), if_neg (fun q => h66 ((w1_tired g len a).mpr q)), if_neg (fun q => h80 ((w1_heard g len a).mpr q)), if_neg (fun q => h94 ((w1_light g len a).mpr q)), if_neg (fun q => h109 ((w1_minute g len a).mpr q)), if_neg (fun q => h124 ((w1_awake g len a).mpr q))]; split; · rfl
             · split <;> rfl)
          | (rw [if_neg (fun q => h12 ((w1_snores g len a).mpr q)), if_neg (fun q => h25 ((w1_wine g len a).mpr q)), if_neg (fun q => h38 ((w1_cold g len a).mpr q)), if_neg (fun q => h52 ((w1_depth g len a).mpr q)), if_neg (fun q => h66 ((w1_tired g len a).mpr q)), if_neg (fun q => h80 ((w1_heard g len a).mpr q)), if_neg (fun q => h94 ((w1_light g len a).mpr q)), if_neg (fun q => h109 ((w1_minute g len a).mpr q)), if_pos ((w1_awake g len a).mp h124)]; rfl)
          | (rw [if_neg (fun q => h12 ((w1_snores g len a).mpr q)), if_neg (fun q => h25 ((w1_wine g len a).mpr q)), if_neg (fun q => h38 ((w1_cold g len a).mpr q)), if_neg (fun q => h52 ((w1_depth g len a).mpr q)), if_neg (fun q => h66 ((w1_tired g len a).mpr q)), if_neg (fun q => h80 ((w1_heard g len a).mpr q)), if_neg (fun q => h94 ((w1_light g len a).mpr q)), if_pos ((w1_minute g len a).mp h109)]; rfl)
          | (rw [if_neg (fun q => h12 ((w1_snores g len a).mpr q)), if_neg (fun q => h25 ((w1_wine g len a).mpr q)), if_neg (fun q => h38 ((w1_cold g len a).mpr q)), if_neg (fun q => h52 ((w1_depth g len a).mpr q)), if_neg (fun q => h66 ((w1_tired g len a).mpr q)), if_neg (fun q => h80 ((w1_heard g len a).mpr q)), if_pos ((w1_light g len a).mp h94)]; rfl)
          | (rw [if_neg (fun q => h12 ((w1_snores g len a).mpr q)), if_neg (fun q => h25 ((w1_wine g len a).mpr q)), if_neg (fun q => h38 ((w1_cold g len a).mpr q)), if_neg (fun q => h52 ((w1_depth g len a).mpr q)), if_neg (fun q => h66 ((w1_tired g len a).mpr q)), if_pos ((w1_heard g len a).mp h80)]; rfl)
          | (rw [if_neg (fun q => h12 ((w1_snores g len a).mpr q)), if_neg (fun q => h25 ((w1_wine g len a).mpr q)), if_neg (fun q => h38 ((w1_cold g len a).mpr q)), if_neg (fun q => h52 ((w1_depth g len a).mpr q)), if_pos ((w1_tired g len a).mp h66)]; rfl)
          | (rw [if_neg (fun q => h12 ((w1_snores g len a).mpr q)), if_neg (fun q => h25 ((w1_wine g len a).mpr q)), if_neg (fun q => h38 ((w1_cold g len a).mpr q)), if_pos ((w1_depth g len a).mp h52)]; rfl)
          | (rw [if_neg (fun q => h12 ((w1_snores g len a).mpr q)), if_neg (fun q => h25 ((w1_wine g len a).mpr q)), if_pos ((w1_cold g len a).mp h38)]; rfl)
          | (rw [if_neg (fun q => h12 ((w1_snores g len a).mpr q)), if_pos ((w1_wine g len a).mp h25)]; rfl)
          | (rw [if_pos ((w1_snores g len a).mp h12)]; rfl)
    · refine r_iconst (v := nI 1) dX10_factHere_28 (by decide) ?_
      refine r_goto (tgt := 133) dX10_factHere_29 (by decide) ?_
      refine r_iret rfl dX10_factHere_133 ?_
      refine ⟨?_, rfl⟩
      unfold wrd
      rw [wkey1]
      first
        | (rw [if_neg (fun q => h12 ((w1_snores g len a).mpr q)), if_neg (fun q => h25 ((w1_wine g len a).mpr q)), if_neg (fun q => h38 ((w1_cold g len a).mpr q)), if_neg (fun q => h52 ((w1_depth g len a).mpr q)), if_neg (fun q => h66 ((w1_tired g len a).mpr q)), if_neg (fun q => h80 ((w1_heard g len a).mpr q)), if_neg (fun q => h94 ((w1_light g len a).mpr q)), if_neg (fun q => h109 ((w1_minute g len a).mpr q)), if_neg (fun q => h124 ((w1_awake g len a).mpr q))]; split; · rfl
           · split <;> rfl)
        | (rw [if_neg (fun q => h12 ((w1_snores g len a).mpr q)), if_neg (fun q => h25 ((w1_wine g len a).mpr q)), if_neg (fun q => h38 ((w1_cold g len a).mpr q)), if_neg (fun q => h52 ((w1_depth g len a).mpr q)), if_neg (fun q => h66 ((w1_tired g len a).mpr q)), if_neg (fun q => h80 ((w1_heard g len a).mpr q)), if_neg (fun q => h94 ((w1_light g len a).mpr q)), if_neg (fun q => h109 ((w1_minute g len a).mpr q)), if_pos ((w1_awake g len a).mp h124)]; rfl)
        | (rw [if_neg (fun q => h12 ((w1_snores g len a).mpr q)), if_neg (fun q => h25 ((w1_wine g len a).mpr q)), if_neg (fun q => h38 ((w1_cold g len a).mpr q)), if_neg (fun q => h52 ((w1_depth g len a).mpr q)), if_neg (fun q => h66 ((w1_tired g len a).mpr q)), if_neg (fun q => h80 ((w1_heard g len a).mpr q)), if_neg (fun q => h94 ((w1_light g len a).mpr q)), if_pos ((w1_minute g len a).mp h109)]; rfl)
        | (rw [if_neg (fun q => h12 ((w1_snores g len a).mpr q)), if_neg (fun q => h25 ((w1_wine g len a).mpr q)), if_neg (fun q => h38 ((w1_cold g len a).mpr q)), if_neg (fun q => h52 ((w1_depth g len a).mpr q)), if_neg (fun q => h66 ((w1_tired g len a).mpr q)), if_neg (fun q => h80 ((w1_heard g len a).mpr q)), if_pos ((w1_light g len a).mp h94)]; rfl)
        | (rw [if_neg (fun q => h12 ((w1_snores g len a).mpr q)), if_neg (fun q => h25 ((w1_wine g len a).mpr q)), if_neg (fun q => h38 ((w1_cold g len a).mpr q)), if_neg (fun q => h52 ((w1_depth g len a).mpr q)), if_neg (fun q => h66 ((w1_tired g len a).mpr q)), if_pos ((w1_heard g len a).mp h80)]; rfl)
        | (rw [if_neg (fun q => h12 ((w1_snores g len a).mpr q)), if_neg (fun q => h25 ((w1_wine g len a).mpr q)), if_neg (fun q => h38 ((w1_cold g len a).mpr q)), if_neg (fun q => h52 ((w1_depth g len a).mpr q)), if_pos ((w1_tired g len a).mp h66)]; rfl)
        | (rw [if_neg (fun q => h12 ((w1_snores g len a).mpr q)), if_neg (fun q => h25 ((w1_wine g len a).mpr q)), if_neg (fun q => h38 ((w1_cold g len a).mpr q)), if_pos ((w1_depth g len a).mp h52)]; rfl)
        | (rw [if_neg (fun q => h12 ((w1_snores g len a).mpr q)), if_neg (fun q => h25 ((w1_wine g len a).mpr q)), if_pos ((w1_cold g len a).mp h38)]; rfl)
        | (rw [if_neg (fun q => h12 ((w1_snores g len a).mpr q)), if_pos ((w1_wine g len a).mp h25)]; rfl)
        | (rw [if_pos ((w1_snores g len a).mp h12)]; rfl)
  · refine r_iconst (v := nI 0) dX10_factHere_15 (by decide) ?_
    refine r_goto (tgt := 133) dX10_factHere_16 (by decide) ?_
    refine r_iret rfl dX10_factHere_133 ?_
    refine ⟨?_, rfl⟩
    unfold wrd
    rw [wkey1]
    first
      | (rw [if_neg (fun q => h12 ((w1_snores g len a).mpr q)), if_neg (fun q => h25 ((w1_wine g len a).mpr q)), if_neg (fun q => h38 ((w1_cold g len a).mpr q)), if_neg (fun q => h52 ((w1_depth g len a).mpr q)), if_neg (fun q => h66 ((w1_tired g len a).mpr q)), if_neg (fun q => h80 ((w1_heard g len a).mpr q)), if_neg (fun q => h94 ((w1_light g len a).mpr q)), if_neg (fun q => h109 ((w1_minute g len a).mpr q)), if_neg (fun q => h124 ((w1_awake g len a).mpr q))]; split; · rfl
         · split <;> rfl)
      | (rw [if_neg (fun q => h12 ((w1_snores g len a).mpr q)), if_neg (fun q => h25 ((w1_wine g len a).mpr q)), if_neg (fun q => h38 ((w1_cold g len a).mpr q)), if_neg (fun q => h52 ((w1_depth g len a).mpr q)), if_neg (fun q => h66 ((w1_tired g len a).mpr q)), if_neg (fun q => h80 ((w1_heard g len a).mpr q)), if_neg (fun q => h94 ((w1_light g len a).mpr q)), if_neg (fun q => h109 ((w1_minute g len a).mpr q)), if_pos ((w1_awake g len a).mp h124)]; rfl)
      | (rw [if_neg (fun q => h12 ((w1_snores g len a).mpr q)), if_neg (fun q => h25 ((w1_wine g len a).mpr q)), if_neg (fun q => h38 ((w1_cold g len a).mpr q)), if_neg (fun q => h52 ((w1_depth g len a).mpr q)), if_neg (fun q => h66 ((w1_tired g len a).mpr q)), if_neg (fun q => h80 ((w1_heard g len a).mpr q)), if_neg (fun q => h94 ((w1_light g len a).mpr q)), if_pos ((w1_minute g len a).mp h109)]; rfl)
      | (rw [if_neg (fun q => h12 ((w1_snores g len a).mpr q)), if_neg (fun q => h25 ((w1_wine g len a).mpr q)), if_neg (fun q => h38 ((w1_cold g len a).mpr q)), if_neg (fun q => h52 ((w1_depth g len a).mpr q)), if_neg (fun q => h66 ((w1_tired g len a).mpr q)), if_neg (fun q => h80 ((w1_heard g len a).mpr q)), if_pos ((w1_light g len a).mp h94)]; rfl)
      | (rw [if_neg (fun q => h12 ((w1_snores g len a).mpr q)), if_neg (fun q => h25 ((w1_wine g len a).mpr q)), if_neg (fun q => h38 ((w1_cold g len a).mpr q)), if_neg (fun q => h52 ((w1_depth g len a).mpr q)), if_neg (fun q => h66 ((w1_tired g len a).mpr q)), if_pos ((w1_heard g len a).mp h80)]; rfl)
      | (rw [if_neg (fun q => h12 ((w1_snores g len a).mpr q)), if_neg (fun q => h25 ((w1_wine g len a).mpr q)), if_neg (fun q => h38 ((w1_cold g len a).mpr q)), if_neg (fun q => h52 ((w1_depth g len a).mpr q)), if_pos ((w1_tired g len a).mp h66)]; rfl)
      | (rw [if_neg (fun q => h12 ((w1_snores g len a).mpr q)), if_neg (fun q => h25 ((w1_wine g len a).mpr q)), if_neg (fun q => h38 ((w1_cold g len a).mpr q)), if_pos ((w1_depth g len a).mp h52)]; rfl)
      | (rw [if_neg (fun q => h12 ((w1_snores g len a).mpr q)), if_neg (fun q => h25 ((w1_wine g len a).mpr q)), if_pos ((w1_cold g len a).mp h38)]; rfl)
      | (rw [if_neg (fun q => h12 ((w1_snores g len a).mpr q)), if_pos ((w1_wine g len a).mp h25)]; rfl)
      | (rw [if_pos ((w1_snores g len a).mp h12)]; rfl)
